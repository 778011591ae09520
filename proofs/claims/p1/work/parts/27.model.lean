-- BorderDeskModel.thrown()I
def kt_M_thrown_0 (rt : Option wq_V → wq_W → Prop) (xt : Nat → wq_W → Prop) : wq_T := (wq_aload 0 (wq_get 9 0 (wq_ireturn 0 0 rt)))
def ks_M_thrown : wq_S := wq_sp 1 (fun rt xt => kt_M_thrown_0 rt xt)
set_option maxRecDepth 100000 in
set_option maxHeartbeats 4000000 in
theorem kv_M_thrown {l : Launch} (hl : l.stackTraces = false) : wq_Vld l kz_cl ky_M_thrown kw_T ({ frames := 0, cells := 0, slots := 0, locals := 0 }) wq_G0 ks_M_thrown 0 0 := by
  refine wq_method (cc := kc_M_thrown) (maxL := 1) (ret := (some .int)) (by decide) kw_1190 (fun _ _ => rfl) wq_sp_sz ?_
  intro p e s m args below meth c cs D ad as w rt xt hF hnt hsp
  obtain ⟨h0, hr, hts, hown, hlk, hnm, hml, hK, hZ, hN, hA⟩ := hF
  have hown : s.vm.findClass "BorderDeskModel" = some m.cls := hown
  obtain ⟨A, hAe⟩ : ∃ A, A = wq_A ad w s.heap.size := ⟨_, rfl⟩
  rw [← hAe] at hZ hA ⊢
  have hb_0 : wq_Snd p l e ({ frames := 0, cells := 0, slots := 0, locals := 0 } : Room) s m args below meth c 1 cs D kz_cl A (wq_G0 ad w) (wq_Q cs D kz_cl A (wq_G0 ad w) rt xt below s 0 0) 0 (kt_M_thrown_0 rt xt) := by
    refine wq_aload_n_ok h0 kd_M_thrown_0 rfl ?_
    refine wq_get_ok (wq_getOK h0 hts ki_M hown hK (ci := 9) rfl 0 (Nat.le_of_ble_eq_true rfl) kw_982 rfl) kd_M_thrown_1 ?_
    exact wq_ireturn_ok h0 hr hlk kd_M_thrown_4
  exact hb_0 _ _ _ _ _ (wq_sp_t hsp)
-- BorderDeskModel.within(III)Z
def kt_M_within_15 (rt : Option wq_V → wq_W → Prop) (xt : Nat → wq_W → Prop) : wq_T := (wq_zreturn 0 0 rt)
def kt_M_within_14 (rt : Option wq_V → wq_W → Prop) (xt : Nat → wq_W → Prop) : wq_T := (wq_iconst (nI 0) (kt_M_within_15 rt xt))
def kt_M_within_0 (rt : Option wq_V → wq_W → Prop) (xt : Nat → wq_W → Prop) : wq_T := (wq_iload 0 (wq_iload 1 (wq_f2 (fun x y => x < y) (kt_M_within_14 rt xt) (wq_iload 0 (wq_iload 2 (wq_f2 (fun x y => y < x) (kt_M_within_14 rt xt) (wq_iconst (nI 1) (kt_M_within_15 rt xt))))))))
def ks_M_within : wq_S := wq_sp 3 (fun rt xt => kt_M_within_0 rt xt)
set_option maxRecDepth 100000 in
set_option maxHeartbeats 4000000 in
theorem kv_M_within {l : Launch} (hl : l.stackTraces = false) : wq_Vld l kz_cl ky_M_within kw_T ({ frames := 0, cells := 0, slots := 0, locals := 0 }) wq_G0 ks_M_within 0 0 := by
  refine wq_method (cc := kc_M_within) (maxL := 3) (ret := (some .boolean)) (by decide) kw_1209 (fun _ _ => rfl) wq_sp_sz ?_
  intro p e s m args below meth c cs D ad as w rt xt hF hnt hsp
  obtain ⟨h0, hr, hts, hown, hlk, hnm, hml, hK, hZ, hN, hA⟩ := hF
  have hown : s.vm.findClass "BorderDeskModel" = some m.cls := hown
  obtain ⟨A, hAe⟩ : ∃ A, A = wq_A ad w s.heap.size := ⟨_, rfl⟩
  rw [← hAe] at hZ hA ⊢
  have hb_15 : wq_Snd p l e ({ frames := 0, cells := 0, slots := 0, locals := 0 } : Room) s m args below meth c 3 cs D kz_cl A (wq_G0 ad w) (wq_Q cs D kz_cl A (wq_G0 ad w) rt xt below s 0 0) 15 (kt_M_within_15 rt xt) := by
    exact wq_zreturn_ok h0 hr hlk kd_M_within_15
  have hb_14 : wq_Snd p l e ({ frames := 0, cells := 0, slots := 0, locals := 0 } : Room) s m args below meth c 3 cs D kz_cl A (wq_G0 ad w) (wq_Q cs D kz_cl A (wq_G0 ad w) rt xt below s 0 0) 14 (kt_M_within_14 rt xt) := by
    refine wq_iconst_ok h0 kd_M_within_14 (by decide +kernel) ?_
    exact hb_15
  have hb_0 : wq_Snd p l e ({ frames := 0, cells := 0, slots := 0, locals := 0 } : Room) s m args below meth c 3 cs D kz_cl A (wq_G0 ad w) (wq_Q cs D kz_cl A (wq_G0 ad w) rt xt below s 0 0) 0 (kt_M_within_0 rt xt) := by
    refine wq_iload_n_ok h0 kd_M_within_0 rfl ?_
    refine wq_iload_n_ok h0 kd_M_within_1 rfl ?_
    refine wq_icmp_lt_ok (tgt := 14) h0 kd_M_within_2 (by decide) ?_ ?_
    · exact hb_14
    refine wq_iload_n_ok h0 kd_M_within_5 rfl ?_
    refine wq_iload_n_ok h0 kd_M_within_6 rfl ?_
    refine wq_icmp_gt_ok (tgt := 14) h0 kd_M_within_7 (by decide) ?_ ?_
    · exact hb_14
    refine wq_iconst_ok h0 kd_M_within_10 (by decide +kernel) ?_
    refine wq_goto_ok (tgt := 15) h0 kd_M_within_11 (by decide) ?_
    exact hb_15
  exact hb_0 _ _ _ _ _ (wq_sp_t hsp)
-- BorderDeskModel.isHeading(I)Z
def kt_M_isHeading_17 (rt : Option wq_V → wq_W → Prop) (xt : Nat → wq_W → Prop) : wq_T := (wq_zreturn 0 0 rt)
def kt_M_isHeading_16 (rt : Option wq_V → wq_W → Prop) (xt : Nat → wq_W → Prop) : wq_T := (wq_iconst (nI 0) (kt_M_isHeading_17 rt xt))
def kt_M_isHeading_0 (rt : Option wq_V → wq_W → Prop) (xt : Nat → wq_W → Prop) : wq_T := (wq_iload 1 (wq_f1 (fun x => x < 0) (kt_M_isHeading_16 rt xt) (wq_iload 1 (wq_aload 0 (wq_get 9 1 (wq_f2 (fun x y => y ≤ x) (kt_M_isHeading_16 rt xt) (wq_iconst (nI 1) (kt_M_isHeading_17 rt xt))))))))
def ks_M_isHeading : wq_S := wq_sp 2 (fun rt xt => kt_M_isHeading_0 rt xt)
set_option maxRecDepth 100000 in
set_option maxHeartbeats 4000000 in
theorem kv_M_isHeading {l : Launch} (hl : l.stackTraces = false) : wq_Vld l kz_cl ky_M_isHeading kw_T ({ frames := 0, cells := 0, slots := 0, locals := 0 }) wq_G0 ks_M_isHeading 0 0 := by
  refine wq_method (cc := kc_M_isHeading) (maxL := 2) (ret := (some .boolean)) (by decide) kw_1198 (fun _ _ => rfl) wq_sp_sz ?_
  intro p e s m args below meth c cs D ad as w rt xt hF hnt hsp
  obtain ⟨h0, hr, hts, hown, hlk, hnm, hml, hK, hZ, hN, hA⟩ := hF
  have hown : s.vm.findClass "BorderDeskModel" = some m.cls := hown
  obtain ⟨A, hAe⟩ : ∃ A, A = wq_A ad w s.heap.size := ⟨_, rfl⟩
  rw [← hAe] at hZ hA ⊢
  have hb_17 : wq_Snd p l e ({ frames := 0, cells := 0, slots := 0, locals := 0 } : Room) s m args below meth c 2 cs D kz_cl A (wq_G0 ad w) (wq_Q cs D kz_cl A (wq_G0 ad w) rt xt below s 0 0) 17 (kt_M_isHeading_17 rt xt) := by
    exact wq_zreturn_ok h0 hr hlk kd_M_isHeading_17
  have hb_16 : wq_Snd p l e ({ frames := 0, cells := 0, slots := 0, locals := 0 } : Room) s m args below meth c 2 cs D kz_cl A (wq_G0 ad w) (wq_Q cs D kz_cl A (wq_G0 ad w) rt xt below s 0 0) 16 (kt_M_isHeading_16 rt xt) := by
    refine wq_iconst_ok h0 kd_M_isHeading_16 (by decide +kernel) ?_
    exact hb_17
  have hb_0 : wq_Snd p l e ({ frames := 0, cells := 0, slots := 0, locals := 0 } : Room) s m args below meth c 2 cs D kz_cl A (wq_G0 ad w) (wq_Q cs D kz_cl A (wq_G0 ad w) rt xt below s 0 0) 0 (kt_M_isHeading_0 rt xt) := by
    refine wq_iload_n_ok h0 kd_M_isHeading_0 rfl ?_
    refine wq_if_lt_ok (tgt := 16) h0 kd_M_isHeading_1 (by decide) ?_ ?_
    · exact hb_16
    refine wq_iload_n_ok h0 kd_M_isHeading_4 rfl ?_
    refine wq_aload_n_ok h0 kd_M_isHeading_5 rfl ?_
    refine wq_get_ok (wq_getOK h0 hts ki_M hown hK (ci := 9) rfl 1 (Nat.le_of_ble_eq_true rfl) kw_983 rfl) kd_M_isHeading_6 ?_
    refine wq_icmp_ge_ok (tgt := 16) h0 kd_M_isHeading_9 (by decide) ?_ ?_
    · exact hb_16
    refine wq_iconst_ok h0 kd_M_isHeading_12 (by decide +kernel) ?_
    refine wq_goto_ok (tgt := 17) h0 kd_M_isHeading_13 (by decide) ?_
    exact hb_17
  exact hb_0 _ _ _ _ _ (wq_sp_t hsp)
-- BorderDeskModel.classOf(I)I
def kt_M_classOf_79 (rt : Option wq_V → wq_W → Prop) (xt : Nat → wq_W → Prop) (K : Nat → wq_T) : wq_T := (wq_iload 2 (wq_ireturn 0 0 rt))
def kt_M_classOf_73 (rt : Option wq_V → wq_W → Prop) (xt : Nat → wq_W → Prop) (K : Nat → wq_T) : wq_T := (wq_iinc 3 (nI 1) (K 4))
def kt_M_classOf_72 (rt : Option wq_V → wq_W → Prop) (xt : Nat → wq_W → Prop) (K : Nat → wq_T) : wq_T := (wq_istore 2 (kt_M_classOf_73 rt xt K))
def kt_M_classOf_67 (rt : Option wq_V → wq_W → Prop) (xt : Nat → wq_W → Prop) (K : Nat → wq_T) : wq_T := (wq_iload 3 (kt_M_classOf_72 rt xt K))
def kt_M_classOf_71 (rt : Option wq_V → wq_W → Prop) (xt : Nat → wq_W → Prop) (K : Nat → wq_T) : wq_T := (wq_iload 2 (kt_M_classOf_72 rt xt K))
def kt_M_classOf_40 (rt : Option wq_V → wq_W → Prop) (xt : Nat → wq_W → Prop) (K : Nat → wq_T) : wq_T := (wq_istore 4 (wq_iload 4 (wq_f1 (fun x => 0 < x) (kt_M_classOf_67 rt xt K) (wq_iload 4 (wq_f1 (fun x => x = 0) (wq_aload 0 (wq_iload 3 (wq_iload 1 (wq_call (wq_rv 9 wq_no) 3 0 0 0 0 (wq_xout 0 0 xt) (wq_aload 0 (wq_iload 2 (wq_iload 1 (wq_call (wq_rv 9 wq_no) 3 0 0 0 0 (wq_xout 0 0 xt) (wq_f2 (fun x y => x < y) (kt_M_classOf_71 rt xt K) (kt_M_classOf_67 rt xt K)))))))))) (kt_M_classOf_71 rt xt K))))))
def kt_M_classOf_29 (rt : Option wq_V → wq_W → Prop) (xt : Nat → wq_W → Prop) (K : Nat → wq_T) : wq_T := (wq_aload 0 (wq_iload 3 (wq_call (wq_rv 9 wq_no) 2 0 0 0 0 (wq_xout 0 0 xt) (wq_aload 0 (wq_iload 2 (wq_call (wq_rv 9 wq_no) 2 0 0 0 0 (wq_xout 0 0 xt) (wq_i2 (fun x y => x - y) (kt_M_classOf_40 rt xt K))))))))
def kh_M_classOf_4 (rt : Option wq_V → wq_W → Prop) (xt : Nat → wq_W → Prop) (K : Nat → wq_T) : wq_T := (wq_iload 3 (wq_aload 0 (wq_get 9 1 (wq_f2 (fun x y => y ≤ x) (kt_M_classOf_79 rt xt K) (wq_aload 0 (wq_iload 3 (wq_iload 1 (wq_call (wq_rv 9 wq_no) 3 0 0 0 0 (wq_xout 0 0 xt) (wq_f1 (fun x => x = 0) (kt_M_classOf_73 rt xt K) (wq_iload 2 (wq_f1 (fun x => 0 ≤ x) (kt_M_classOf_29 rt xt K) (wq_iconst (nI 1) (kt_M_classOf_40 rt xt K)))))))))))))
def kt_M_classOf_0 (rt : Option wq_V → wq_W → Prop) (xt : Nat → wq_W → Prop) (K : Nat → wq_T) : wq_T := (wq_iconst (-1) (wq_istore 2 (wq_iconst (nI 0) (wq_istore 3 (K 4)))))
def ku_M_classOf (rt : Option wq_V → wq_W → Prop) (xt : Nat → wq_W → Prop) : Nat → Nat → wq_T
  | 0, _ => fun _ _ _ _ _ => False
  | n + 1, pc => cond (Nat.beq pc 4) (kh_M_classOf_4 rt xt (ku_M_classOf rt xt n)) (fun _ _ _ _ _ => False)
def ks_M_classOf : wq_S := wq_sp 5 (fun rt xt => kt_M_classOf_0 rt xt (ku_M_classOf rt xt 40))
set_option maxRecDepth 100000 in
set_option maxHeartbeats 4000000 in
theorem kv_M_classOf {l : Launch} (hl : l.stackTraces = false) : wq_Vld l kz_cl ky_M_classOf kw_T ({ frames := 1, cells := 0, slots := 0, locals := 25 }) wq_G0 ks_M_classOf 0 0 := by
  refine wq_method (cc := kc_M_classOf) (maxL := 5) (ret := (some .int)) (by decide) kw_1221 (fun _ _ => rfl) wq_sp_sz ?_
  intro p e s m args below meth c cs D ad as w rt xt hF hnt hsp
  obtain ⟨h0, hr, hts, hown, hlk, hnm, hml, hK, hZ, hN, hA⟩ := hF
  have hown : s.vm.findClass "BorderDeskModel" = some m.cls := hown
  obtain ⟨A, hAe⟩ : ∃ A, A = wq_A ad w s.heap.size := ⟨_, rfl⟩
  rw [← hAe] at hZ hA ⊢
  have hall : ∀ K : Nat → wq_T, (∀ pc, pc ∈ [4] → wq_Snd p l e ({ frames := 1, cells := 0, slots := 0, locals := 25 } : Room) s m args below meth c 5 cs D kz_cl A (wq_G0 ad w) (wq_Q cs D kz_cl A (wq_G0 ad w) rt xt below s 0 0) pc (K pc)) → (∀ pc, pc ∈ [4] → wq_Snd p l e ({ frames := 1, cells := 0, slots := 0, locals := 25 } : Room) s m args below meth c 5 cs D kz_cl A (wq_G0 ad w) (wq_Q cs D kz_cl A (wq_G0 ad w) rt xt below s 0 0) pc (cond (Nat.beq pc 4) (kh_M_classOf_4 rt xt K) (fun _ _ _ _ _ => False))) ∧ wq_Snd p l e ({ frames := 1, cells := 0, slots := 0, locals := 25 } : Room) s m args below meth c 5 cs D kz_cl A (wq_G0 ad w) (wq_Q cs D kz_cl A (wq_G0 ad w) rt xt below s 0 0) 0 (kt_M_classOf_0 rt xt K) := by
    intro K hKc
    have hb_79 : wq_Snd p l e ({ frames := 1, cells := 0, slots := 0, locals := 25 } : Room) s m args below meth c 5 cs D kz_cl A (wq_G0 ad w) (wq_Q cs D kz_cl A (wq_G0 ad w) rt xt below s 0 0) 79 (kt_M_classOf_79 rt xt K) := by
      refine wq_iload_n_ok h0 kd_M_classOf_79 rfl ?_
      exact wq_ireturn_ok h0 hr hlk kd_M_classOf_80
    have hb_73 : wq_Snd p l e ({ frames := 1, cells := 0, slots := 0, locals := 25 } : Room) s m args below meth c 5 cs D kz_cl A (wq_G0 ad w) (wq_Q cs D kz_cl A (wq_G0 ad w) rt xt below s 0 0) 73 (kt_M_classOf_73 rt xt K) := by
      refine wq_iinc_ok h0 kd_M_classOf_73 (by decide +kernel) (Nat.le_of_ble_eq_true rfl) ?_
      refine wq_goto_ok (tgt := 4) h0 kd_M_classOf_76 (by decide) ?_
      exact hKc 4 (by decide)
    have hb_72 : wq_Snd p l e ({ frames := 1, cells := 0, slots := 0, locals := 25 } : Room) s m args below meth c 5 cs D kz_cl A (wq_G0 ad w) (wq_Q cs D kz_cl A (wq_G0 ad w) rt xt below s 0 0) 72 (kt_M_classOf_72 rt xt K) := by
      refine wq_istore_n_ok h0 kd_M_classOf_72 rfl (Nat.le_of_ble_eq_true rfl) ?_
      exact hb_73
    have hb_67 : wq_Snd p l e ({ frames := 1, cells := 0, slots := 0, locals := 25 } : Room) s m args below meth c 5 cs D kz_cl A (wq_G0 ad w) (wq_Q cs D kz_cl A (wq_G0 ad w) rt xt below s 0 0) 67 (kt_M_classOf_67 rt xt K) := by
      refine wq_iload_n_ok h0 kd_M_classOf_67 rfl ?_
      refine wq_goto_ok (tgt := 72) h0 kd_M_classOf_68 (by decide) ?_
      exact hb_72
    have hb_71 : wq_Snd p l e ({ frames := 1, cells := 0, slots := 0, locals := 25 } : Room) s m args below meth c 5 cs D kz_cl A (wq_G0 ad w) (wq_Q cs D kz_cl A (wq_G0 ad w) rt xt below s 0 0) 71 (kt_M_classOf_71 rt xt K) := by
      refine wq_iload_n_ok h0 kd_M_classOf_71 rfl ?_
      exact hb_72
    have hb_40 : wq_Snd p l e ({ frames := 1, cells := 0, slots := 0, locals := 25 } : Room) s m args below meth c 5 cs D kz_cl A (wq_G0 ad w) (wq_Q cs D kz_cl A (wq_G0 ad w) rt xt below s 0 0) 40 (kt_M_classOf_40 rt xt K) := by
      refine wq_istore_ok h0 kd_M_classOf_40 (Nat.le_of_ble_eq_true rfl) ?_
      refine wq_iload_ok h0 kd_M_classOf_42 ?_
      refine wq_if_gt_ok (tgt := 67) h0 kd_M_classOf_44 (by decide) ?_ ?_
      · exact hb_67
      refine wq_iload_ok h0 kd_M_classOf_47 ?_
      refine wq_if_ne_ok (tgt := 71) h0 kd_M_classOf_49 (by decide) ?_ ?_
      · exact hb_71
      refine wq_aload_n_ok h0 kd_M_classOf_52 rfl ?_
      refine wq_iload_n_ok h0 kd_M_classOf_53 rfl ?_
      refine wq_iload_n_ok h0 kd_M_classOf_54 rfl ?_
      refine wq_call_ok hA (wq_runV (ci := 9) ⟨h0.1, h0.2, hml, hown, hts⟩ (wq_no_ok (y := ({ cls := "BorderDeskModel", name := "shareOf", desc := "(II)I" } : Jvm.MethodName)) (ws := kw_T) (rm := { frames := 0, cells := 0, slots := 0, locals := 0 }) (mc := 0) (ms := 0)) ⟨(wq_cB hts kw_G kw_1237 kw_10 kw_1234 ⟨by decide +kernel, by decide +kernel, by decide +kernel⟩ rfl rfl ⟨Nat.le_of_ble_eq_true rfl, Nat.le_of_ble_eq_true rfl⟩), hts _ kw_1236, hts _ kw_s34⟩ rfl rfl hK hZ hN hA kd_M_classOf_55) (wq_xout_ok hnt hlk) ?_
      refine wq_aload_n_ok h0 kd_M_classOf_58 rfl ?_
      refine wq_iload_n_ok h0 kd_M_classOf_59 rfl ?_
      refine wq_iload_n_ok h0 kd_M_classOf_60 rfl ?_
      refine wq_call_ok hA (wq_runV (ci := 9) ⟨h0.1, h0.2, hml, hown, hts⟩ (wq_no_ok (y := ({ cls := "BorderDeskModel", name := "shareOf", desc := "(II)I" } : Jvm.MethodName)) (ws := kw_T) (rm := { frames := 0, cells := 0, slots := 0, locals := 0 }) (mc := 0) (ms := 0)) ⟨(wq_cB hts kw_G kw_1237 kw_10 kw_1234 ⟨by decide +kernel, by decide +kernel, by decide +kernel⟩ rfl rfl ⟨Nat.le_of_ble_eq_true rfl, Nat.le_of_ble_eq_true rfl⟩), hts _ kw_1236, hts _ kw_s34⟩ rfl rfl hK hZ hN hA kd_M_classOf_61) (wq_xout_ok hnt hlk) ?_
      refine wq_icmp_lt_ok (tgt := 71) h0 kd_M_classOf_64 (by decide) ?_ ?_
      · exact hb_71
      exact hb_67
    have hb_29 : wq_Snd p l e ({ frames := 1, cells := 0, slots := 0, locals := 25 } : Room) s m args below meth c 5 cs D kz_cl A (wq_G0 ad w) (wq_Q cs D kz_cl A (wq_G0 ad w) rt xt below s 0 0) 29 (kt_M_classOf_29 rt xt K) := by
      refine wq_aload_n_ok h0 kd_M_classOf_29 rfl ?_
      refine wq_iload_n_ok h0 kd_M_classOf_30 rfl ?_
      refine wq_call_ok hA (wq_runV (ci := 9) ⟨h0.1, h0.2, hml, hown, hts⟩ (wq_no_ok (y := ({ cls := "BorderDeskModel", name := "depthOf", desc := "(I)I" } : Jvm.MethodName)) (ws := kw_T) (rm := { frames := 0, cells := 0, slots := 0, locals := 0 }) (mc := 0) (ms := 0)) ⟨(wq_cB hts kw_G kw_1202 kw_10 kw_1199 ⟨by decide +kernel, by decide +kernel, by decide +kernel⟩ rfl rfl ⟨Nat.le_of_ble_eq_true rfl, Nat.le_of_ble_eq_true rfl⟩), hts _ kw_1201, hts _ kw_s29⟩ rfl rfl hK hZ hN hA kd_M_classOf_31) (wq_xout_ok hnt hlk) ?_
      refine wq_aload_n_ok h0 kd_M_classOf_34 rfl ?_
      refine wq_iload_n_ok h0 kd_M_classOf_35 rfl ?_
      refine wq_call_ok hA (wq_runV (ci := 9) ⟨h0.1, h0.2, hml, hown, hts⟩ (wq_no_ok (y := ({ cls := "BorderDeskModel", name := "depthOf", desc := "(I)I" } : Jvm.MethodName)) (ws := kw_T) (rm := { frames := 0, cells := 0, slots := 0, locals := 0 }) (mc := 0) (ms := 0)) ⟨(wq_cB hts kw_G kw_1202 kw_10 kw_1199 ⟨by decide +kernel, by decide +kernel, by decide +kernel⟩ rfl rfl ⟨Nat.le_of_ble_eq_true rfl, Nat.le_of_ble_eq_true rfl⟩), hts _ kw_1201, hts _ kw_s29⟩ rfl rfl hK hZ hN hA kd_M_classOf_36) (wq_xout_ok hnt hlk) ?_
      refine wq_isub_ok h0 kd_M_classOf_39 ?_
      exact hb_40
    have hb_4 : wq_Snd p l e ({ frames := 1, cells := 0, slots := 0, locals := 25 } : Room) s m args below meth c 5 cs D kz_cl A (wq_G0 ad w) (wq_Q cs D kz_cl A (wq_G0 ad w) rt xt below s 0 0) 4 (kh_M_classOf_4 rt xt K) := by
      refine wq_iload_n_ok h0 kd_M_classOf_4 rfl ?_
      refine wq_aload_n_ok h0 kd_M_classOf_5 rfl ?_
      refine wq_get_ok (wq_getOK h0 hts ki_M hown hK (ci := 9) rfl 1 (Nat.le_of_ble_eq_true rfl) kw_983 rfl) kd_M_classOf_6 ?_
      refine wq_icmp_ge_ok (tgt := 79) h0 kd_M_classOf_9 (by decide) ?_ ?_
      · exact hb_79
      refine wq_aload_n_ok h0 kd_M_classOf_12 rfl ?_
      refine wq_iload_n_ok h0 kd_M_classOf_13 rfl ?_
      refine wq_iload_n_ok h0 kd_M_classOf_14 rfl ?_
      refine wq_call_ok hA (wq_runV (ci := 9) ⟨h0.1, h0.2, hml, hown, hts⟩ (wq_no_ok (y := ({ cls := "BorderDeskModel", name := "fits", desc := "(II)Z" } : Jvm.MethodName)) (ws := kw_T) (rm := { frames := 0, cells := 0, slots := 0, locals := 0 }) (mc := 0) (ms := 0)) ⟨(wq_cB hts kw_G kw_1225 kw_10 kw_1222 ⟨by decide +kernel, by decide +kernel, by decide +kernel⟩ rfl rfl ⟨Nat.le_of_ble_eq_true rfl, Nat.le_of_ble_eq_true rfl⟩), hts _ kw_1224, hts _ kw_s31⟩ rfl rfl hK hZ hN hA kd_M_classOf_15) (wq_xout_ok hnt hlk) ?_
      refine wq_if_eq_ok (tgt := 73) h0 kd_M_classOf_18 (by decide) ?_ ?_
      · exact hb_73
      refine wq_iload_n_ok h0 kd_M_classOf_21 rfl ?_
      refine wq_if_ge_ok (tgt := 29) h0 kd_M_classOf_22 (by decide) ?_ ?_
      · exact hb_29
      refine wq_iconst_ok h0 kd_M_classOf_25 (by decide +kernel) ?_
      refine wq_goto_ok (tgt := 40) h0 kd_M_classOf_26 (by decide) ?_
      exact hb_40
    have hb_0 : wq_Snd p l e ({ frames := 1, cells := 0, slots := 0, locals := 25 } : Room) s m args below meth c 5 cs D kz_cl A (wq_G0 ad w) (wq_Q cs D kz_cl A (wq_G0 ad w) rt xt below s 0 0) 0 (kt_M_classOf_0 rt xt K) := by
      refine wq_iconst_ok h0 kd_M_classOf_0 (by decide +kernel) ?_
      refine wq_istore_n_ok h0 kd_M_classOf_1 rfl (Nat.le_of_ble_eq_true rfl) ?_
      refine wq_iconst_ok h0 kd_M_classOf_2 (by decide +kernel) ?_
      refine wq_istore_n_ok h0 kd_M_classOf_3 rfl (Nat.le_of_ble_eq_true rfl) ?_
      exact hKc 4 (by decide)
    refine ⟨?_, hb_0⟩
    exact List.forall_mem_cons.mpr ⟨hb_4, fun _ h => absurd h List.not_mem_nil⟩
  have hun : ∀ (n pc : Nat), pc ∈ [4] → wq_Snd p l e ({ frames := 1, cells := 0, slots := 0, locals := 25 } : Room) s m args below meth c 5 cs D kz_cl A (wq_G0 ad w) (wq_Q cs D kz_cl A (wq_G0 ad w) rt xt below s 0 0) pc (ku_M_classOf rt xt n pc) := by
    intro n
    induction n with
    | zero => intro pc _ L S w9 n1 n2 h; exact h.elim
    | succ n ih => intro pc hpc; exact (hall (ku_M_classOf rt xt n) ih).1 pc hpc
  exact (hall (ku_M_classOf rt xt 40) (hun 40)).2 _ _ _ _ _ (wq_sp_t hsp)
-- BorderDeskModel.heading(I)I
def kt_M_heading_57 (rt : Option wq_V → wq_W → Prop) (xt : Nat → wq_W → Prop) : wq_T := (wq_aload 0 (wq_get 9 2 (wq_aload 0 (wq_get 9 1 (wq_iload 1 (wq_iast (wq_aload 0 (wq_get 9 3 (wq_aload 0 (wq_get 9 1 (wq_iconst (-1) (wq_iast (wq_aload 0 (wq_dup (wq_get 9 1 (wq_iconst (nI 1) (wq_i2 (fun x y => x + y) (wq_put 9 1 wq_isI (wq_aload 0 (wq_get 9 1 (wq_iconst (nI 1) (wq_i2 (fun x y => x - y) (wq_ireturn 0 0 rt)))))))))))))))))))))))
def kt_M_heading_45 (rt : Option wq_V → wq_W → Prop) (xt : Nat → wq_W → Prop) : wq_T := (wq_put 9 0 wq_isI (wq_aload 0 (wq_get 9 0 (wq_f1 (fun x => x ≤ 0) (kt_M_heading_57 rt xt) (wq_iconst (nI 0) (wq_ireturn 0 0 rt))))))
def kt_M_heading_40 (rt : Option wq_V → wq_W → Prop) (xt : Nat → wq_W → Prop) : wq_T := (wq_iconst (nI 2) (kt_M_heading_45 rt xt))
def kt_M_heading_44 (rt : Option wq_V → wq_W → Prop) (xt : Nat → wq_W → Prop) : wq_T := (wq_iconst (nI 0) (kt_M_heading_45 rt xt))
def kt_M_heading_18 (rt : Option wq_V → wq_W → Prop) (xt : Nat → wq_W → Prop) : wq_T := (wq_aload 0 (wq_get 9 1 (wq_iconst (nI 24) (wq_f2 (fun x y => x = y) (kt_M_heading_40 rt xt) (wq_iload 1 (wq_f1 (fun x => x < 0) (kt_M_heading_44 rt xt) (wq_aload 0 (wq_iload 1 (wq_call (wq_rv 9 wq_no) 2 0 0 0 0 (wq_xout 0 0 xt) (wq_iconst (nI 5) (wq_f2 (fun x y => x = y) (kt_M_heading_40 rt xt) (kt_M_heading_44 rt xt))))))))))))
def kt_M_heading_0 (rt : Option wq_V → wq_W → Prop) (xt : Nat → wq_W → Prop) : wq_T := (wq_aload 0 (wq_iload 1 (wq_iconst (-1) (wq_f2 (fun x y => x = y) (kt_M_heading_18 rt xt) (wq_aload 0 (wq_iload 1 (wq_call (wq_rv 9 ks_M_isHeading) 2 0 0 0 0 (wq_xout 0 0 xt) (wq_f1 (fun x => x = 0) (wq_iconst (nI 1) (kt_M_heading_45 rt xt)) (kt_M_heading_18 rt xt)))))))))
def ks_M_heading : wq_S := wq_sp 2 (fun rt xt => kt_M_heading_0 rt xt)
set_option maxRecDepth 100000 in
set_option maxHeartbeats 4000000 in
theorem kv_M_heading {l : Launch} (hl : l.stackTraces = false) : wq_Vld l kz_cl ky_M_heading kw_T ({ frames := 1, cells := 0, slots := 0, locals := 23 }) wq_G0 ks_M_heading 0 0 := by
  refine wq_method (cc := kc_M_heading) (maxL := 2) (ret := (some .int)) (by decide) kw_1194 (fun _ _ => rfl) wq_sp_sz ?_
  intro p e s m args below meth c cs D ad as w rt xt hF hnt hsp
  obtain ⟨h0, hr, hts, hown, hlk, hnm, hml, hK, hZ, hN, hA⟩ := hF
  have hown : s.vm.findClass "BorderDeskModel" = some m.cls := hown
  obtain ⟨A, hAe⟩ : ∃ A, A = wq_A ad w s.heap.size := ⟨_, rfl⟩
  rw [← hAe] at hZ hA ⊢
  have hb_57 : wq_Snd p l e ({ frames := 1, cells := 0, slots := 0, locals := 23 } : Room) s m args below meth c 2 cs D kz_cl A (wq_G0 ad w) (wq_Q cs D kz_cl A (wq_G0 ad w) rt xt below s 0 0) 57 (kt_M_heading_57 rt xt) := by
    refine wq_aload_n_ok h0 kd_M_heading_57 rfl ?_
    refine wq_get_ok (wq_getOK h0 hts ki_M hown hK (ci := 9) rfl 2 (Nat.le_of_ble_eq_true rfl) kw_984 rfl) kd_M_heading_58 ?_
    refine wq_aload_n_ok h0 kd_M_heading_61 rfl ?_
    refine wq_get_ok (wq_getOK h0 hts ki_M hown hK (ci := 9) rfl 1 (Nat.le_of_ble_eq_true rfl) kw_983 rfl) kd_M_heading_62 ?_
    refine wq_iload_n_ok h0 kd_M_heading_65 rfl ?_
    refine wq_iast_ok h0 hK kd_M_heading_66 ?_
    refine wq_aload_n_ok h0 kd_M_heading_67 rfl ?_
    refine wq_get_ok (wq_getOK h0 hts ki_M hown hK (ci := 9) rfl 3 (Nat.le_of_ble_eq_true rfl) kw_985 rfl) kd_M_heading_68 ?_
    refine wq_aload_n_ok h0 kd_M_heading_71 rfl ?_
    refine wq_get_ok (wq_getOK h0 hts ki_M hown hK (ci := 9) rfl 1 (Nat.le_of_ble_eq_true rfl) kw_983 rfl) kd_M_heading_72 ?_
    refine wq_iconst_ok h0 kd_M_heading_75 (by decide +kernel) ?_
    refine wq_iast_ok h0 hK kd_M_heading_76 ?_
    refine wq_aload_n_ok h0 kd_M_heading_77 rfl ?_
    refine wq_dup_ok h0 kd_M_heading_78 ?_
    refine wq_get_ok (wq_getOK h0 hts ki_M hown hK (ci := 9) rfl 1 (Nat.le_of_ble_eq_true rfl) kw_983 rfl) kd_M_heading_79 ?_
    refine wq_iconst_ok h0 kd_M_heading_82 (by decide +kernel) ?_
    refine wq_iadd_ok h0 kd_M_heading_83 ?_
    refine wq_put_ok (wq_putOK h0 hts ki_M ka_M kb_M kn_M hown hK (ci := 9) rfl 1 (Nat.le_of_ble_eq_true rfl) kw_983 rfl (Or.inl rfl) wq_okI) kd_M_heading_84 ?_
    refine wq_aload_n_ok h0 kd_M_heading_87 rfl ?_
    refine wq_get_ok (wq_getOK h0 hts ki_M hown hK (ci := 9) rfl 1 (Nat.le_of_ble_eq_true rfl) kw_983 rfl) kd_M_heading_88 ?_
    refine wq_iconst_ok h0 kd_M_heading_91 (by decide +kernel) ?_
    refine wq_isub_ok h0 kd_M_heading_92 ?_
    exact wq_ireturn_ok h0 hr hlk kd_M_heading_93
  have hb_45 : wq_Snd p l e ({ frames := 1, cells := 0, slots := 0, locals := 23 } : Room) s m args below meth c 2 cs D kz_cl A (wq_G0 ad w) (wq_Q cs D kz_cl A (wq_G0 ad w) rt xt below s 0 0) 45 (kt_M_heading_45 rt xt) := by
    refine wq_put_ok (wq_putOK h0 hts ki_M ka_M kb_M kn_M hown hK (ci := 9) rfl 0 (Nat.le_of_ble_eq_true rfl) kw_982 rfl (Or.inl rfl) wq_okI) kd_M_heading_45 ?_
    refine wq_aload_n_ok h0 kd_M_heading_48 rfl ?_
    refine wq_get_ok (wq_getOK h0 hts ki_M hown hK (ci := 9) rfl 0 (Nat.le_of_ble_eq_true rfl) kw_982 rfl) kd_M_heading_49 ?_
    refine wq_if_le_ok (tgt := 57) h0 kd_M_heading_52 (by decide) ?_ ?_
    · exact hb_57
    refine wq_iconst_ok h0 kd_M_heading_55 (by decide +kernel) ?_
    exact wq_ireturn_ok h0 hr hlk kd_M_heading_56
  have hb_40 : wq_Snd p l e ({ frames := 1, cells := 0, slots := 0, locals := 23 } : Room) s m args below meth c 2 cs D kz_cl A (wq_G0 ad w) (wq_Q cs D kz_cl A (wq_G0 ad w) rt xt below s 0 0) 40 (kt_M_heading_40 rt xt) := by
    refine wq_iconst_ok h0 kd_M_heading_40 (by decide +kernel) ?_
    refine wq_goto_ok (tgt := 45) h0 kd_M_heading_41 (by decide) ?_
    exact hb_45
  have hb_44 : wq_Snd p l e ({ frames := 1, cells := 0, slots := 0, locals := 23 } : Room) s m args below meth c 2 cs D kz_cl A (wq_G0 ad w) (wq_Q cs D kz_cl A (wq_G0 ad w) rt xt below s 0 0) 44 (kt_M_heading_44 rt xt) := by
    refine wq_iconst_ok h0 kd_M_heading_44 (by decide +kernel) ?_
    exact hb_45
  have hb_18 : wq_Snd p l e ({ frames := 1, cells := 0, slots := 0, locals := 23 } : Room) s m args below meth c 2 cs D kz_cl A (wq_G0 ad w) (wq_Q cs D kz_cl A (wq_G0 ad w) rt xt below s 0 0) 18 (kt_M_heading_18 rt xt) := by
    refine wq_aload_n_ok h0 kd_M_heading_18 rfl ?_
    refine wq_get_ok (wq_getOK h0 hts ki_M hown hK (ci := 9) rfl 1 (Nat.le_of_ble_eq_true rfl) kw_983 rfl) kd_M_heading_19 ?_
    refine wq_bipush_ok h0 kd_M_heading_22 (by decide +kernel) ?_
    refine wq_icmp_eq_ok (tgt := 40) h0 kd_M_heading_24 (by decide) ?_ ?_
    · exact hb_40
    refine wq_iload_n_ok h0 kd_M_heading_27 rfl ?_
    refine wq_if_lt_ok (tgt := 44) h0 kd_M_heading_28 (by decide) ?_ ?_
    · exact hb_44
    refine wq_aload_n_ok h0 kd_M_heading_31 rfl ?_
    refine wq_iload_n_ok h0 kd_M_heading_32 rfl ?_
    refine wq_call_ok hA (wq_runV (ci := 9) ⟨h0.1, h0.2, hml, hown, hts⟩ (wq_no_ok (y := ({ cls := "BorderDeskModel", name := "depthOf", desc := "(I)I" } : Jvm.MethodName)) (ws := kw_T) (rm := { frames := 0, cells := 0, slots := 0, locals := 0 }) (mc := 0) (ms := 0)) ⟨(wq_cB hts kw_G kw_1202 kw_10 kw_1199 ⟨by decide +kernel, by decide +kernel, by decide +kernel⟩ rfl rfl ⟨Nat.le_of_ble_eq_true rfl, Nat.le_of_ble_eq_true rfl⟩), hts _ kw_1201, hts _ kw_s29⟩ rfl rfl hK hZ hN hA kd_M_heading_33) (wq_xout_ok hnt hlk) ?_
    refine wq_iconst_ok h0 kd_M_heading_36 (by decide +kernel) ?_
    refine wq_icmp_ne_ok (tgt := 44) h0 kd_M_heading_37 (by decide) ?_ ?_
    · exact hb_44
    exact hb_40
  have hb_0 : wq_Snd p l e ({ frames := 1, cells := 0, slots := 0, locals := 23 } : Room) s m args below meth c 2 cs D kz_cl A (wq_G0 ad w) (wq_Q cs D kz_cl A (wq_G0 ad w) rt xt below s 0 0) 0 (kt_M_heading_0 rt xt) := by
    refine wq_aload_n_ok h0 kd_M_heading_0 rfl ?_
    refine wq_iload_n_ok h0 kd_M_heading_1 rfl ?_
    refine wq_iconst_ok h0 kd_M_heading_2 (by decide +kernel) ?_
    refine wq_icmp_eq_ok (tgt := 18) h0 kd_M_heading_3 (by decide) ?_ ?_
    · exact hb_18
    refine wq_aload_n_ok h0 kd_M_heading_6 rfl ?_
    refine wq_iload_n_ok h0 kd_M_heading_7 rfl ?_
    refine wq_call_ok hA (wq_runV (ci := 9) ⟨h0.1, h0.2, hml, hown, hts⟩ (kv_M_isHeading hl) ⟨(wq_cB hts kw_G kw_1198 kw_10 kw_1195 ⟨by decide +kernel, by decide +kernel, by decide +kernel⟩ rfl rfl ⟨Nat.le_of_ble_eq_true rfl, Nat.le_of_ble_eq_true rfl⟩), hts _ kw_1197, hts _ kw_s28⟩ rfl rfl hK hZ hN hA kd_M_heading_8) (wq_xout_ok hnt hlk) ?_
    refine wq_if_ne_ok (tgt := 18) h0 kd_M_heading_11 (by decide) ?_ ?_
    · exact hb_18
    refine wq_iconst_ok h0 kd_M_heading_14 (by decide +kernel) ?_
    refine wq_goto_ok (tgt := 45) h0 kd_M_heading_15 (by decide) ?_
    exact hb_45
  exact hb_0 _ _ _ _ _ (wq_sp_t hsp)
-- BorderDeskModel.note(IIII)I
def kt_M_note_91 (rt : Option wq_V → wq_W → Prop) (xt : Nat → wq_W → Prop) : wq_T := (wq_aload 0 (wq_get 9 6 (wq_aload 0 (wq_get 9 5 (wq_iload 1 (wq_iast (wq_aload 0 (wq_get 9 7 (wq_aload 0 (wq_get 9 5 (wq_iload 2 (wq_iast (wq_aload 0 (wq_get 9 8 (wq_aload 0 (wq_get 9 5 (wq_iload 3 (wq_iast (wq_aload 0 (wq_get 9 9 (wq_aload 0 (wq_get 9 5 (wq_iload 4 (wq_iast (wq_aload 0 (wq_dup (wq_get 9 5 (wq_iconst (nI 1) (wq_i2 (fun x y => x + y) (wq_put 9 5 wq_isI (wq_aload 0 (wq_get 9 5 (wq_iconst (nI 1) (wq_i2 (fun x y => x - y) (wq_ireturn 0 0 rt)))))))))))))))))))))))))))))))))))
def kt_M_note_79 (rt : Option wq_V → wq_W → Prop) (xt : Nat → wq_W → Prop) : wq_T := (wq_put 9 0 wq_isI (wq_aload 0 (wq_get 9 0 (wq_f1 (fun x => x ≤ 0) (kt_M_note_91 rt xt) (wq_iconst (nI 0) (wq_ireturn 0 0 rt))))))
def kt_M_note_78 (rt : Option wq_V → wq_W → Prop) (xt : Nat → wq_W → Prop) : wq_T := (wq_iconst (nI 0) (kt_M_note_79 rt xt))
def kt_M_note_65 (rt : Option wq_V → wq_W → Prop) (xt : Nat → wq_W → Prop) : wq_T := (wq_aload 0 (wq_get 9 5 (wq_iconst (nI 40) (wq_f2 (fun x y => x = y) (wq_iconst (nI 2) (kt_M_note_79 rt xt)) (kt_M_note_78 rt xt)))))
def kt_M_note_53 (rt : Option wq_V → wq_W → Prop) (xt : Nat → wq_W → Prop) : wq_T := (wq_istore 5 (wq_aload 0 (wq_iload 5 (wq_f1 (fun x => x = 0) (wq_iconst (nI 1) (kt_M_note_79 rt xt)) (kt_M_note_65 rt xt)))))
def kt_M_note_52 (rt : Option wq_V → wq_W → Prop) (xt : Nat → wq_W → Prop) : wq_T := (wq_iconst (nI 0) (kt_M_note_53 rt xt))
def kt_M_note_30 (rt : Option wq_V → wq_W → Prop) (xt : Nat → wq_W → Prop) : wq_T := (wq_call ks_M_within 3 0 0 0 0 (wq_xout 0 0 xt) (wq_f1 (fun x => x = 0) (kt_M_note_52 rt xt) (wq_iload 4 (wq_iconst (nI 1) (wq_iconst (nI 1000) (wq_call ks_M_within 3 0 0 0 0 (wq_xout 0 0 xt) (wq_f1 (fun x => x = 0) (kt_M_note_52 rt xt) (wq_iconst (nI 1) (kt_M_note_53 rt xt)))))))))
def kt_M_note_28 (rt : Option wq_V → wq_W → Prop) (xt : Nat → wq_W → Prop) : wq_T := (wq_iconst (nI 7) (kt_M_note_30 rt xt))
def kt_M_note_0 (rt : Option wq_V → wq_W → Prop) (xt : Nat → wq_W → Prop) : wq_T := (wq_aload 0 (wq_iload 1 (wq_call (wq_rv 9 ks_M_isHeading) 2 0 0 0 0 (wq_xout 0 0 xt) (wq_f1 (fun x => x = 0) (kt_M_note_52 rt xt) (wq_iload 2 (wq_iconst (nI 0) (wq_iconst (nI 2) (wq_call ks_M_within 3 0 0 0 0 (wq_xout 0 0 xt) (wq_f1 (fun x => x = 0) (kt_M_note_52 rt xt) (wq_iload 3 (wq_iconst (nI 0) (wq_iload 2 (wq_iconst (nI 2) (wq_f2 (fun x y => x = y) (wq_iconst (nI 3) (kt_M_note_30 rt xt)) (kt_M_note_28 rt xt)))))))))))))))
def ks_M_note : wq_S := wq_sp 6 (fun rt xt => kt_M_note_0 rt xt)
set_option maxRecDepth 100000 in
set_option maxHeartbeats 4000000 in
theorem kv_M_note {l : Launch} (hl : l.stackTraces = false) : wq_Vld l kz_cl ky_M_note kw_T ({ frames := 1, cells := 0, slots := 0, locals := 22 }) wq_G0 ks_M_note 0 0 := by
  refine wq_method (cc := kc_M_note) (maxL := 6) (ret := (some .int)) (by decide) kw_1206 (fun _ _ => rfl) wq_sp_sz ?_
  intro p e s m args below meth c cs D ad as w rt xt hF hnt hsp
  obtain ⟨h0, hr, hts, hown, hlk, hnm, hml, hK, hZ, hN, hA⟩ := hF
  have hown : s.vm.findClass "BorderDeskModel" = some m.cls := hown
  obtain ⟨A, hAe⟩ : ∃ A, A = wq_A ad w s.heap.size := ⟨_, rfl⟩
  rw [← hAe] at hZ hA ⊢
  have hb_91 : wq_Snd p l e ({ frames := 1, cells := 0, slots := 0, locals := 22 } : Room) s m args below meth c 6 cs D kz_cl A (wq_G0 ad w) (wq_Q cs D kz_cl A (wq_G0 ad w) rt xt below s 0 0) 91 (kt_M_note_91 rt xt) := by
    refine wq_aload_n_ok h0 kd_M_note_91 rfl ?_
    refine wq_get_ok (wq_getOK h0 hts ki_M hown hK (ci := 9) rfl 6 (Nat.le_of_ble_eq_true rfl) kw_988 rfl) kd_M_note_92 ?_
    refine wq_aload_n_ok h0 kd_M_note_95 rfl ?_
    refine wq_get_ok (wq_getOK h0 hts ki_M hown hK (ci := 9) rfl 5 (Nat.le_of_ble_eq_true rfl) kw_987 rfl) kd_M_note_96 ?_
    refine wq_iload_n_ok h0 kd_M_note_99 rfl ?_
    refine wq_iast_ok h0 hK kd_M_note_100 ?_
    refine wq_aload_n_ok h0 kd_M_note_101 rfl ?_
    refine wq_get_ok (wq_getOK h0 hts ki_M hown hK (ci := 9) rfl 7 (Nat.le_of_ble_eq_true rfl) kw_989 rfl) kd_M_note_102 ?_
    refine wq_aload_n_ok h0 kd_M_note_105 rfl ?_
    refine wq_get_ok (wq_getOK h0 hts ki_M hown hK (ci := 9) rfl 5 (Nat.le_of_ble_eq_true rfl) kw_987 rfl) kd_M_note_106 ?_
    refine wq_iload_n_ok h0 kd_M_note_109 rfl ?_
    refine wq_iast_ok h0 hK kd_M_note_110 ?_
    refine wq_aload_n_ok h0 kd_M_note_111 rfl ?_
    refine wq_get_ok (wq_getOK h0 hts ki_M hown hK (ci := 9) rfl 8 (Nat.le_of_ble_eq_true rfl) kw_990 rfl) kd_M_note_112 ?_
    refine wq_aload_n_ok h0 kd_M_note_115 rfl ?_
    refine wq_get_ok (wq_getOK h0 hts ki_M hown hK (ci := 9) rfl 5 (Nat.le_of_ble_eq_true rfl) kw_987 rfl) kd_M_note_116 ?_
    refine wq_iload_n_ok h0 kd_M_note_119 rfl ?_
    refine wq_iast_ok h0 hK kd_M_note_120 ?_
    refine wq_aload_n_ok h0 kd_M_note_121 rfl ?_
    refine wq_get_ok (wq_getOK h0 hts ki_M hown hK (ci := 9) rfl 9 (Nat.le_of_ble_eq_true rfl) kw_991 rfl) kd_M_note_122 ?_
    refine wq_aload_n_ok h0 kd_M_note_125 rfl ?_
    refine wq_get_ok (wq_getOK h0 hts ki_M hown hK (ci := 9) rfl 5 (Nat.le_of_ble_eq_true rfl) kw_987 rfl) kd_M_note_126 ?_
    refine wq_iload_ok h0 kd_M_note_129 ?_
    refine wq_iast_ok h0 hK kd_M_note_131 ?_
    refine wq_aload_n_ok h0 kd_M_note_132 rfl ?_
    refine wq_dup_ok h0 kd_M_note_133 ?_
    refine wq_get_ok (wq_getOK h0 hts ki_M hown hK (ci := 9) rfl 5 (Nat.le_of_ble_eq_true rfl) kw_987 rfl) kd_M_note_134 ?_
    refine wq_iconst_ok h0 kd_M_note_137 (by decide +kernel) ?_
    refine wq_iadd_ok h0 kd_M_note_138 ?_
    refine wq_put_ok (wq_putOK h0 hts ki_M ka_M kb_M kn_M hown hK (ci := 9) rfl 5 (Nat.le_of_ble_eq_true rfl) kw_987 rfl (Or.inl rfl) wq_okI) kd_M_note_139 ?_
    refine wq_aload_n_ok h0 kd_M_note_142 rfl ?_
    refine wq_get_ok (wq_getOK h0 hts ki_M hown hK (ci := 9) rfl 5 (Nat.le_of_ble_eq_true rfl) kw_987 rfl) kd_M_note_143 ?_
    refine wq_iconst_ok h0 kd_M_note_146 (by decide +kernel) ?_
    refine wq_isub_ok h0 kd_M_note_147 ?_
    exact wq_ireturn_ok h0 hr hlk kd_M_note_148
  have hb_79 : wq_Snd p l e ({ frames := 1, cells := 0, slots := 0, locals := 22 } : Room) s m args below meth c 6 cs D kz_cl A (wq_G0 ad w) (wq_Q cs D kz_cl A (wq_G0 ad w) rt xt below s 0 0) 79 (kt_M_note_79 rt xt) := by
    refine wq_put_ok (wq_putOK h0 hts ki_M ka_M kb_M kn_M hown hK (ci := 9) rfl 0 (Nat.le_of_ble_eq_true rfl) kw_982 rfl (Or.inl rfl) wq_okI) kd_M_note_79 ?_
    refine wq_aload_n_ok h0 kd_M_note_82 rfl ?_
    refine wq_get_ok (wq_getOK h0 hts ki_M hown hK (ci := 9) rfl 0 (Nat.le_of_ble_eq_true rfl) kw_982 rfl) kd_M_note_83 ?_
    refine wq_if_le_ok (tgt := 91) h0 kd_M_note_86 (by decide) ?_ ?_
    · exact hb_91
    refine wq_iconst_ok h0 kd_M_note_89 (by decide +kernel) ?_
    exact wq_ireturn_ok h0 hr hlk kd_M_note_90
  have hb_78 : wq_Snd p l e ({ frames := 1, cells := 0, slots := 0, locals := 22 } : Room) s m args below meth c 6 cs D kz_cl A (wq_G0 ad w) (wq_Q cs D kz_cl A (wq_G0 ad w) rt xt below s 0 0) 78 (kt_M_note_78 rt xt) := by
    refine wq_iconst_ok h0 kd_M_note_78 (by decide +kernel) ?_
    exact hb_79
  have hb_65 : wq_Snd p l e ({ frames := 1, cells := 0, slots := 0, locals := 22 } : Room) s m args below meth c 6 cs D kz_cl A (wq_G0 ad w) (wq_Q cs D kz_cl A (wq_G0 ad w) rt xt below s 0 0) 65 (kt_M_note_65 rt xt) := by
    refine wq_aload_n_ok h0 kd_M_note_65 rfl ?_
    refine wq_get_ok (wq_getOK h0 hts ki_M hown hK (ci := 9) rfl 5 (Nat.le_of_ble_eq_true rfl) kw_987 rfl) kd_M_note_66 ?_
    refine wq_bipush_ok h0 kd_M_note_69 (by decide +kernel) ?_
    refine wq_icmp_ne_ok (tgt := 78) h0 kd_M_note_71 (by decide) ?_ ?_
    · exact hb_78
    refine wq_iconst_ok h0 kd_M_note_74 (by decide +kernel) ?_
    refine wq_goto_ok (tgt := 79) h0 kd_M_note_75 (by decide) ?_
    exact hb_79
  have hb_53 : wq_Snd p l e ({ frames := 1, cells := 0, slots := 0, locals := 22 } : Room) s m args below meth c 6 cs D kz_cl A (wq_G0 ad w) (wq_Q cs D kz_cl A (wq_G0 ad w) rt xt below s 0 0) 53 (kt_M_note_53 rt xt) := by
    refine wq_istore_ok h0 kd_M_note_53 (Nat.le_of_ble_eq_true rfl) ?_
    refine wq_aload_n_ok h0 kd_M_note_55 rfl ?_
    refine wq_iload_ok h0 kd_M_note_56 ?_
    refine wq_if_ne_ok (tgt := 65) h0 kd_M_note_58 (by decide) ?_ ?_
    · exact hb_65
    refine wq_iconst_ok h0 kd_M_note_61 (by decide +kernel) ?_
    refine wq_goto_ok (tgt := 79) h0 kd_M_note_62 (by decide) ?_
    exact hb_79
  have hb_52 : wq_Snd p l e ({ frames := 1, cells := 0, slots := 0, locals := 22 } : Room) s m args below meth c 6 cs D kz_cl A (wq_G0 ad w) (wq_Q cs D kz_cl A (wq_G0 ad w) rt xt below s 0 0) 52 (kt_M_note_52 rt xt) := by
    refine wq_iconst_ok h0 kd_M_note_52 (by decide +kernel) ?_
    exact hb_53
  have hb_30 : wq_Snd p l e ({ frames := 1, cells := 0, slots := 0, locals := 22 } : Room) s m args below meth c 6 cs D kz_cl A (wq_G0 ad w) (wq_Q cs D kz_cl A (wq_G0 ad w) rt xt below s 0 0) 30 (kt_M_note_30 rt xt) := by
    refine wq_call_ok hA (wq_runS ⟨h0.1, h0.2, hml, hown, hts⟩ (kv_M_within hl) ⟨(wq_cB hts kw_G kw_1209 kw_10 kw_1207 ⟨by decide +kernel, by decide +kernel, by decide +kernel⟩ rfl rfl ⟨Nat.le_of_ble_eq_true rfl, Nat.le_of_ble_eq_true rfl⟩), hts _ kw_1208⟩ hK hZ hN hA kd_M_note_30) (wq_xout_ok hnt hlk) ?_
    refine wq_if_eq_ok (tgt := 52) h0 kd_M_note_33 (by decide) ?_ ?_
    · exact hb_52
    refine wq_iload_ok h0 kd_M_note_36 ?_
    refine wq_iconst_ok h0 kd_M_note_38 (by decide +kernel) ?_
    refine wq_sipush_ok h0 kd_M_note_39 (by decide +kernel) ?_
    refine wq_call_ok hA (wq_runS ⟨h0.1, h0.2, hml, hown, hts⟩ (kv_M_within hl) ⟨(wq_cB hts kw_G kw_1209 kw_10 kw_1207 ⟨by decide +kernel, by decide +kernel, by decide +kernel⟩ rfl rfl ⟨Nat.le_of_ble_eq_true rfl, Nat.le_of_ble_eq_true rfl⟩), hts _ kw_1208⟩ hK hZ hN hA kd_M_note_42) (wq_xout_ok hnt hlk) ?_
    refine wq_if_eq_ok (tgt := 52) h0 kd_M_note_45 (by decide) ?_ ?_
    · exact hb_52
    refine wq_iconst_ok h0 kd_M_note_48 (by decide +kernel) ?_
    refine wq_goto_ok (tgt := 53) h0 kd_M_note_49 (by decide) ?_
    exact hb_53
  have hb_28 : wq_Snd p l e ({ frames := 1, cells := 0, slots := 0, locals := 22 } : Room) s m args below meth c 6 cs D kz_cl A (wq_G0 ad w) (wq_Q cs D kz_cl A (wq_G0 ad w) rt xt below s 0 0) 28 (kt_M_note_28 rt xt) := by
    refine wq_bipush_ok h0 kd_M_note_28 (by decide +kernel) ?_
    exact hb_30
  have hb_0 : wq_Snd p l e ({ frames := 1, cells := 0, slots := 0, locals := 22 } : Room) s m args below meth c 6 cs D kz_cl A (wq_G0 ad w) (wq_Q cs D kz_cl A (wq_G0 ad w) rt xt below s 0 0) 0 (kt_M_note_0 rt xt) := by
    refine wq_aload_n_ok h0 kd_M_note_0 rfl ?_
    refine wq_iload_n_ok h0 kd_M_note_1 rfl ?_
    refine wq_call_ok hA (wq_runV (ci := 9) ⟨h0.1, h0.2, hml, hown, hts⟩ (kv_M_isHeading hl) ⟨(wq_cB hts kw_G kw_1198 kw_10 kw_1195 ⟨by decide +kernel, by decide +kernel, by decide +kernel⟩ rfl rfl ⟨Nat.le_of_ble_eq_true rfl, Nat.le_of_ble_eq_true rfl⟩), hts _ kw_1197, hts _ kw_s28⟩ rfl rfl hK hZ hN hA kd_M_note_2) (wq_xout_ok hnt hlk) ?_
    refine wq_if_eq_ok (tgt := 52) h0 kd_M_note_5 (by decide) ?_ ?_
    · exact hb_52
    refine wq_iload_n_ok h0 kd_M_note_8 rfl ?_
    refine wq_iconst_ok h0 kd_M_note_9 (by decide +kernel) ?_
    refine wq_iconst_ok h0 kd_M_note_10 (by decide +kernel) ?_
    refine wq_call_ok hA (wq_runS ⟨h0.1, h0.2, hml, hown, hts⟩ (kv_M_within hl) ⟨(wq_cB hts kw_G kw_1209 kw_10 kw_1207 ⟨by decide +kernel, by decide +kernel, by decide +kernel⟩ rfl rfl ⟨Nat.le_of_ble_eq_true rfl, Nat.le_of_ble_eq_true rfl⟩), hts _ kw_1208⟩ hK hZ hN hA kd_M_note_11) (wq_xout_ok hnt hlk) ?_
    refine wq_if_eq_ok (tgt := 52) h0 kd_M_note_14 (by decide) ?_ ?_
    · exact hb_52
    refine wq_iload_n_ok h0 kd_M_note_17 rfl ?_
    refine wq_iconst_ok h0 kd_M_note_18 (by decide +kernel) ?_
    refine wq_iload_n_ok h0 kd_M_note_19 rfl ?_
    refine wq_iconst_ok h0 kd_M_note_20 (by decide +kernel) ?_
    refine wq_icmp_ne_ok (tgt := 28) h0 kd_M_note_21 (by decide) ?_ ?_
    · exact hb_28
    refine wq_iconst_ok h0 kd_M_note_24 (by decide +kernel) ?_
    refine wq_goto_ok (tgt := 30) h0 kd_M_note_25 (by decide) ?_
    exact hb_30
  exact hb_0 _ _ _ _ _ (wq_sp_t hsp)
-- BorderDeskModel.fact(III)I
def kt_M_fact_49 (rt : Option wq_V → wq_W → Prop) (xt : Nat → wq_W → Prop) : wq_T := (wq_aload 0 (wq_get 9 26 (wq_iconst (nI 8) (wq_iload 1 (wq_i2 (fun x y => x * y) (wq_iload 2 (wq_i2 (fun x y => x + y) (wq_iald (wq_istore 4 (wq_aload 0 (wq_get 9 26 (wq_iconst (nI 8) (wq_iload 1 (wq_i2 (fun x y => x * y) (wq_iload 2 (wq_i2 (fun x y => x + y) (wq_iload 3 (wq_iast (wq_iload 4 (wq_ireturn 0 0 rt))))))))))))))))))))
def kt_M_fact_37 (rt : Option wq_V → wq_W → Prop) (xt : Nat → wq_W → Prop) : wq_T := (wq_put 9 0 wq_isI (wq_aload 0 (wq_get 9 0 (wq_f1 (fun x => x ≤ 0) (kt_M_fact_49 rt xt) (wq_iconst (nI 0) (wq_ireturn 0 0 rt))))))
def kt_M_fact_36 (rt : Option wq_V → wq_W → Prop) (xt : Nat → wq_W → Prop) : wq_T := (wq_iconst (nI 1) (kt_M_fact_37 rt xt))
def kt_M_fact_0 (rt : Option wq_V → wq_W → Prop) (xt : Nat → wq_W → Prop) : wq_T := (wq_aload 0 (wq_iload 1 (wq_iconst (nI 0) (wq_iconst (nI 15) (wq_call ks_M_within 3 0 0 0 0 (wq_xout 0 0 xt) (wq_f1 (fun x => x = 0) (kt_M_fact_36 rt xt) (wq_iload 2 (wq_iconst (nI 0) (wq_iconst (nI 7) (wq_call ks_M_within 3 0 0 0 0 (wq_xout 0 0 xt) (wq_f1 (fun x => x = 0) (kt_M_fact_36 rt xt) (wq_iload 3 (wq_iconst (nI 0) (wq_iconst (nI 1000) (wq_call ks_M_within 3 0 0 0 0 (wq_xout 0 0 xt) (wq_f1 (fun x => x = 0) (kt_M_fact_36 rt xt) (wq_iconst (nI 0) (kt_M_fact_37 rt xt))))))))))))))))))
def ks_M_fact : wq_S := wq_sp 5 (fun rt xt => kt_M_fact_0 rt xt)
set_option maxRecDepth 100000 in
set_option maxHeartbeats 4000000 in
theorem kv_M_fact {l : Launch} (hl : l.stackTraces = false) : wq_Vld l kz_cl ky_M_fact kw_T ({ frames := 1, cells := 0, slots := 0, locals := 22 }) wq_G0 ks_M_fact 0 0 := by
  refine wq_method (cc := kc_M_fact) (maxL := 5) (ret := (some .int)) (by decide) kw_1213 (fun _ _ => rfl) wq_sp_sz ?_
  intro p e s m args below meth c cs D ad as w rt xt hF hnt hsp
  obtain ⟨h0, hr, hts, hown, hlk, hnm, hml, hK, hZ, hN, hA⟩ := hF
  have hown : s.vm.findClass "BorderDeskModel" = some m.cls := hown
  obtain ⟨A, hAe⟩ : ∃ A, A = wq_A ad w s.heap.size := ⟨_, rfl⟩
  rw [← hAe] at hZ hA ⊢
  have hb_49 : wq_Snd p l e ({ frames := 1, cells := 0, slots := 0, locals := 22 } : Room) s m args below meth c 5 cs D kz_cl A (wq_G0 ad w) (wq_Q cs D kz_cl A (wq_G0 ad w) rt xt below s 0 0) 49 (kt_M_fact_49 rt xt) := by
    refine wq_aload_n_ok h0 kd_M_fact_49 rfl ?_
    refine wq_get_ok (wq_getOK h0 hts ki_M hown hK (ci := 9) rfl 26 (Nat.le_of_ble_eq_true rfl) kw_1008 rfl) kd_M_fact_50 ?_
    refine wq_bipush_ok h0 kd_M_fact_53 (by decide +kernel) ?_
    refine wq_iload_n_ok h0 kd_M_fact_55 rfl ?_
    refine wq_imul_ok h0 kd_M_fact_56 ?_
    refine wq_iload_n_ok h0 kd_M_fact_57 rfl ?_
    refine wq_iadd_ok h0 kd_M_fact_58 ?_
    refine wq_iald_ok h0 hK kd_M_fact_59 ?_
    refine wq_istore_ok h0 kd_M_fact_60 (Nat.le_of_ble_eq_true rfl) ?_
    refine wq_aload_n_ok h0 kd_M_fact_62 rfl ?_
    refine wq_get_ok (wq_getOK h0 hts ki_M hown hK (ci := 9) rfl 26 (Nat.le_of_ble_eq_true rfl) kw_1008 rfl) kd_M_fact_63 ?_
    refine wq_bipush_ok h0 kd_M_fact_66 (by decide +kernel) ?_
    refine wq_iload_n_ok h0 kd_M_fact_68 rfl ?_
    refine wq_imul_ok h0 kd_M_fact_69 ?_
    refine wq_iload_n_ok h0 kd_M_fact_70 rfl ?_
    refine wq_iadd_ok h0 kd_M_fact_71 ?_
    refine wq_iload_n_ok h0 kd_M_fact_72 rfl ?_
    refine wq_iast_ok h0 hK kd_M_fact_73 ?_
    refine wq_iload_ok h0 kd_M_fact_74 ?_
    exact wq_ireturn_ok h0 hr hlk kd_M_fact_76
  have hb_37 : wq_Snd p l e ({ frames := 1, cells := 0, slots := 0, locals := 22 } : Room) s m args below meth c 5 cs D kz_cl A (wq_G0 ad w) (wq_Q cs D kz_cl A (wq_G0 ad w) rt xt below s 0 0) 37 (kt_M_fact_37 rt xt) := by
    refine wq_put_ok (wq_putOK h0 hts ki_M ka_M kb_M kn_M hown hK (ci := 9) rfl 0 (Nat.le_of_ble_eq_true rfl) kw_982 rfl (Or.inl rfl) wq_okI) kd_M_fact_37 ?_
    refine wq_aload_n_ok h0 kd_M_fact_40 rfl ?_
    refine wq_get_ok (wq_getOK h0 hts ki_M hown hK (ci := 9) rfl 0 (Nat.le_of_ble_eq_true rfl) kw_982 rfl) kd_M_fact_41 ?_
    refine wq_if_le_ok (tgt := 49) h0 kd_M_fact_44 (by decide) ?_ ?_
    · exact hb_49
    refine wq_iconst_ok h0 kd_M_fact_47 (by decide +kernel) ?_
    exact wq_ireturn_ok h0 hr hlk kd_M_fact_48
  have hb_36 : wq_Snd p l e ({ frames := 1, cells := 0, slots := 0, locals := 22 } : Room) s m args below meth c 5 cs D kz_cl A (wq_G0 ad w) (wq_Q cs D kz_cl A (wq_G0 ad w) rt xt below s 0 0) 36 (kt_M_fact_36 rt xt) := by
    refine wq_iconst_ok h0 kd_M_fact_36 (by decide +kernel) ?_
    exact hb_37
  have hb_0 : wq_Snd p l e ({ frames := 1, cells := 0, slots := 0, locals := 22 } : Room) s m args below meth c 5 cs D kz_cl A (wq_G0 ad w) (wq_Q cs D kz_cl A (wq_G0 ad w) rt xt below s 0 0) 0 (kt_M_fact_0 rt xt) := by
    refine wq_aload_n_ok h0 kd_M_fact_0 rfl ?_
    refine wq_iload_n_ok h0 kd_M_fact_1 rfl ?_
    refine wq_iconst_ok h0 kd_M_fact_2 (by decide +kernel) ?_
    refine wq_bipush_ok h0 kd_M_fact_3 (by decide +kernel) ?_
    refine wq_call_ok hA (wq_runS ⟨h0.1, h0.2, hml, hown, hts⟩ (kv_M_within hl) ⟨(wq_cB hts kw_G kw_1209 kw_10 kw_1207 ⟨by decide +kernel, by decide +kernel, by decide +kernel⟩ rfl rfl ⟨Nat.le_of_ble_eq_true rfl, Nat.le_of_ble_eq_true rfl⟩), hts _ kw_1208⟩ hK hZ hN hA kd_M_fact_5) (wq_xout_ok hnt hlk) ?_
    refine wq_if_eq_ok (tgt := 36) h0 kd_M_fact_8 (by decide) ?_ ?_
    · exact hb_36
    refine wq_iload_n_ok h0 kd_M_fact_11 rfl ?_
    refine wq_iconst_ok h0 kd_M_fact_12 (by decide +kernel) ?_
    refine wq_bipush_ok h0 kd_M_fact_13 (by decide +kernel) ?_
    refine wq_call_ok hA (wq_runS ⟨h0.1, h0.2, hml, hown, hts⟩ (kv_M_within hl) ⟨(wq_cB hts kw_G kw_1209 kw_10 kw_1207 ⟨by decide +kernel, by decide +kernel, by decide +kernel⟩ rfl rfl ⟨Nat.le_of_ble_eq_true rfl, Nat.le_of_ble_eq_true rfl⟩), hts _ kw_1208⟩ hK hZ hN hA kd_M_fact_15) (wq_xout_ok hnt hlk) ?_
    refine wq_if_eq_ok (tgt := 36) h0 kd_M_fact_18 (by decide) ?_ ?_
    · exact hb_36
    refine wq_iload_n_ok h0 kd_M_fact_21 rfl ?_
    refine wq_iconst_ok h0 kd_M_fact_22 (by decide +kernel) ?_
    refine wq_sipush_ok h0 kd_M_fact_23 (by decide +kernel) ?_
    refine wq_call_ok hA (wq_runS ⟨h0.1, h0.2, hml, hown, hts⟩ (kv_M_within hl) ⟨(wq_cB hts kw_G kw_1209 kw_10 kw_1207 ⟨by decide +kernel, by decide +kernel, by decide +kernel⟩ rfl rfl ⟨Nat.le_of_ble_eq_true rfl, Nat.le_of_ble_eq_true rfl⟩), hts _ kw_1208⟩ hK hZ hN hA kd_M_fact_26) (wq_xout_ok hnt hlk) ?_
    refine wq_if_eq_ok (tgt := 36) h0 kd_M_fact_29 (by decide) ?_ ?_
    · exact hb_36
    refine wq_iconst_ok h0 kd_M_fact_32 (by decide +kernel) ?_
    refine wq_goto_ok (tgt := 37) h0 kd_M_fact_33 (by decide) ?_
    exact hb_37
  exact hb_0 _ _ _ _ _ (wq_sp_t hsp)
-- BorderDeskModel.classify(I)I
def kt_M_classify_35 (rt : Option wq_V → wq_W → Prop) (xt : Nat → wq_W → Prop) : wq_T := (wq_ireturn 0 0 rt)
def kt_M_classify_30 (rt : Option wq_V → wq_W → Prop) (xt : Nat → wq_W → Prop) : wq_T := (wq_aload 0 (wq_iload 1 (wq_call (wq_rv 9 ks_M_classOf) 2 0 0 0 0 (wq_xout 0 0 xt) (kt_M_classify_35 rt xt))))
def kt_M_classify_16 (rt : Option wq_V → wq_W → Prop) (xt : Nat → wq_W → Prop) : wq_T := (wq_put 9 0 wq_isI (wq_aload 0 (wq_get 9 0 (wq_f1 (fun x => x ≤ 0) (kt_M_classify_30 rt xt) (wq_iconst (nI 0) (kt_M_classify_35 rt xt))))))
def kt_M_classify_15 (rt : Option wq_V → wq_W → Prop) (xt : Nat → wq_W → Prop) : wq_T := (wq_iconst (nI 1) (kt_M_classify_16 rt xt))
def kt_M_classify_0 (rt : Option wq_V → wq_W → Prop) (xt : Nat → wq_W → Prop) : wq_T := (wq_aload 0 (wq_iload 1 (wq_iconst (nI 0) (wq_iconst (nI 15) (wq_call ks_M_within 3 0 0 0 0 (wq_xout 0 0 xt) (wq_f1 (fun x => x = 0) (kt_M_classify_15 rt xt) (wq_iconst (nI 0) (kt_M_classify_16 rt xt))))))))
def ks_M_classify : wq_S := wq_sp 2 (fun rt xt => kt_M_classify_0 rt xt)
set_option maxRecDepth 100000 in
set_option maxHeartbeats 4000000 in
theorem kv_M_classify {l : Launch} (hl : l.stackTraces = false) : wq_Vld l kz_cl ky_M_classify kw_T ({ frames := 2, cells := 0, slots := 0, locals := 49 }) wq_G0 ks_M_classify 0 0 := by
  refine wq_method (cc := kc_M_classify) (maxL := 2) (ret := (some .int)) (by decide) kw_1217 (fun _ _ => rfl) wq_sp_sz ?_
  intro p e s m args below meth c cs D ad as w rt xt hF hnt hsp
  obtain ⟨h0, hr, hts, hown, hlk, hnm, hml, hK, hZ, hN, hA⟩ := hF
  have hown : s.vm.findClass "BorderDeskModel" = some m.cls := hown
  obtain ⟨A, hAe⟩ : ∃ A, A = wq_A ad w s.heap.size := ⟨_, rfl⟩
  rw [← hAe] at hZ hA ⊢
  have hb_35 : wq_Snd p l e ({ frames := 2, cells := 0, slots := 0, locals := 49 } : Room) s m args below meth c 2 cs D kz_cl A (wq_G0 ad w) (wq_Q cs D kz_cl A (wq_G0 ad w) rt xt below s 0 0) 35 (kt_M_classify_35 rt xt) := by
    exact wq_ireturn_ok h0 hr hlk kd_M_classify_35
  have hb_30 : wq_Snd p l e ({ frames := 2, cells := 0, slots := 0, locals := 49 } : Room) s m args below meth c 2 cs D kz_cl A (wq_G0 ad w) (wq_Q cs D kz_cl A (wq_G0 ad w) rt xt below s 0 0) 30 (kt_M_classify_30 rt xt) := by
    refine wq_aload_n_ok h0 kd_M_classify_30 rfl ?_
    refine wq_iload_n_ok h0 kd_M_classify_31 rfl ?_
    refine wq_call_ok hA (wq_runV (ci := 9) ⟨h0.1, h0.2, hml, hown, hts⟩ (kv_M_classOf hl) ⟨(wq_cB hts kw_G kw_1221 kw_10 kw_1218 ⟨by decide +kernel, by decide +kernel, by decide +kernel⟩ rfl rfl ⟨Nat.le_of_ble_eq_true rfl, Nat.le_of_ble_eq_true rfl⟩), hts _ kw_1220, hts _ kw_s30⟩ rfl rfl hK hZ hN hA kd_M_classify_32) (wq_xout_ok hnt hlk) ?_
    exact hb_35
  have hb_16 : wq_Snd p l e ({ frames := 2, cells := 0, slots := 0, locals := 49 } : Room) s m args below meth c 2 cs D kz_cl A (wq_G0 ad w) (wq_Q cs D kz_cl A (wq_G0 ad w) rt xt below s 0 0) 16 (kt_M_classify_16 rt xt) := by
    refine wq_put_ok (wq_putOK h0 hts ki_M ka_M kb_M kn_M hown hK (ci := 9) rfl 0 (Nat.le_of_ble_eq_true rfl) kw_982 rfl (Or.inl rfl) wq_okI) kd_M_classify_16 ?_
    refine wq_aload_n_ok h0 kd_M_classify_19 rfl ?_
    refine wq_get_ok (wq_getOK h0 hts ki_M hown hK (ci := 9) rfl 0 (Nat.le_of_ble_eq_true rfl) kw_982 rfl) kd_M_classify_20 ?_
    refine wq_if_le_ok (tgt := 30) h0 kd_M_classify_23 (by decide) ?_ ?_
    · exact hb_30
    refine wq_iconst_ok h0 kd_M_classify_26 (by decide +kernel) ?_
    refine wq_goto_ok (tgt := 35) h0 kd_M_classify_27 (by decide) ?_
    exact hb_35
  have hb_15 : wq_Snd p l e ({ frames := 2, cells := 0, slots := 0, locals := 49 } : Room) s m args below meth c 2 cs D kz_cl A (wq_G0 ad w) (wq_Q cs D kz_cl A (wq_G0 ad w) rt xt below s 0 0) 15 (kt_M_classify_15 rt xt) := by
    refine wq_iconst_ok h0 kd_M_classify_15 (by decide +kernel) ?_
    exact hb_16
  have hb_0 : wq_Snd p l e ({ frames := 2, cells := 0, slots := 0, locals := 49 } : Room) s m args below meth c 2 cs D kz_cl A (wq_G0 ad w) (wq_Q cs D kz_cl A (wq_G0 ad w) rt xt below s 0 0) 0 (kt_M_classify_0 rt xt) := by
    refine wq_aload_n_ok h0 kd_M_classify_0 rfl ?_
    refine wq_iload_n_ok h0 kd_M_classify_1 rfl ?_
    refine wq_iconst_ok h0 kd_M_classify_2 (by decide +kernel) ?_
    refine wq_bipush_ok h0 kd_M_classify_3 (by decide +kernel) ?_
    refine wq_call_ok hA (wq_runS ⟨h0.1, h0.2, hml, hown, hts⟩ (kv_M_within hl) ⟨(wq_cB hts kw_G kw_1209 kw_10 kw_1207 ⟨by decide +kernel, by decide +kernel, by decide +kernel⟩ rfl rfl ⟨Nat.le_of_ble_eq_true rfl, Nat.le_of_ble_eq_true rfl⟩), hts _ kw_1208⟩ hK hZ hN hA kd_M_classify_5) (wq_xout_ok hnt hlk) ?_
    refine wq_if_eq_ok (tgt := 15) h0 kd_M_classify_8 (by decide) ?_ ?_
    · exact hb_15
    refine wq_iconst_ok h0 kd_M_classify_11 (by decide +kernel) ?_
    refine wq_goto_ok (tgt := 16) h0 kd_M_classify_12 (by decide) ?_
    exact hb_16
  exact hb_0 _ _ _ _ _ (wq_sp_t hsp)
-- BorderDeskModel.rate(IIIIIII)I
def kt_M_rate_114 (rt : Option wq_V → wq_W → Prop) (xt : Nat → wq_W → Prop) : wq_T := (wq_aload 0 (wq_get 9 11 (wq_aload 0 (wq_get 9 10 (wq_iload 1 (wq_iast (wq_aload 0 (wq_get 9 12 (wq_aload 0 (wq_get 9 10 (wq_iload 2 (wq_iast (wq_aload 0 (wq_get 9 13 (wq_aload 0 (wq_get 9 10 (wq_iload 3 (wq_iast (wq_aload 0 (wq_get 9 14 (wq_aload 0 (wq_get 9 10 (wq_iload 4 (wq_iast (wq_aload 0 (wq_get 9 15 (wq_aload 0 (wq_get 9 10 (wq_iload 5 (wq_iast (wq_aload 0 (wq_get 9 16 (wq_aload 0 (wq_get 9 10 (wq_iload 6 (wq_iast (wq_aload 0 (wq_get 9 17 (wq_aload 0 (wq_get 9 10 (wq_iload 7 (wq_iast (wq_aload 0 (wq_dup (wq_get 9 10 (wq_iconst (nI 1) (wq_i2 (fun x y => x + y) (wq_put 9 10 wq_isI (wq_aload 0 (wq_get 9 10 (wq_iconst (nI 1) (wq_i2 (fun x y => x - y) (wq_ireturn 0 0 rt)))))))))))))))))))))))))))))))))))))))))))))))))))))
def kt_M_rate_102 (rt : Option wq_V → wq_W → Prop) (xt : Nat → wq_W → Prop) : wq_T := (wq_put 9 0 wq_isI (wq_aload 0 (wq_get 9 0 (wq_f1 (fun x => x ≤ 0) (kt_M_rate_114 rt xt) (wq_iconst (nI 0) (wq_ireturn 0 0 rt))))))
def kt_M_rate_84 (rt : Option wq_V → wq_W → Prop) (xt : Nat → wq_W → Prop) : wq_T := (wq_iconst (nI 1) (kt_M_rate_102 rt xt))
def kt_M_rate_101 (rt : Option wq_V → wq_W → Prop) (xt : Nat → wq_W → Prop) : wq_T := (wq_iconst (nI 0) (kt_M_rate_102 rt xt))
def kt_M_rate_88 (rt : Option wq_V → wq_W → Prop) (xt : Nat → wq_W → Prop) : wq_T := (wq_aload 0 (wq_get 9 10 (wq_iconst (nI 40) (wq_f2 (fun x y => x = y) (wq_iconst (nI 2) (kt_M_rate_102 rt xt)) (kt_M_rate_101 rt xt)))))
def kt_M_rate_56 (rt : Option wq_V → wq_W → Prop) (xt : Nat → wq_W → Prop) : wq_T := (wq_istore 8 (wq_aload 0 (wq_iload 8 (wq_f1 (fun x => x = 0) (kt_M_rate_84 rt xt) (wq_iload 6 (wq_f1 (fun x => x < 0) (kt_M_rate_84 rt xt) (wq_iload 6 (wq_iload 7 (wq_f2 (fun x y => y < x) (kt_M_rate_84 rt xt) (wq_iload 7 (wq_iconst (nI 9999) (wq_f2 (fun x y => x ≤ y) (kt_M_rate_88 rt xt) (kt_M_rate_84 rt xt)))))))))))))
def kt_M_rate_55 (rt : Option wq_V → wq_W → Prop) (xt : Nat → wq_W → Prop) : wq_T := (wq_iconst (nI 0) (kt_M_rate_56 rt xt))
def kt_M_rate_0 (rt : Option wq_V → wq_W → Prop) (xt : Nat → wq_W → Prop) : wq_T := (wq_aload 0 (wq_iload 1 (wq_call (wq_rv 9 ks_M_isHeading) 2 0 0 0 0 (wq_xout 0 0 xt) (wq_f1 (fun x => x = 0) (kt_M_rate_55 rt xt) (wq_iload 2 (wq_iconst (-1) (wq_iconst (nI 7) (wq_call ks_M_within 3 0 0 0 0 (wq_xout 0 0 xt) (wq_f1 (fun x => x = 0) (kt_M_rate_55 rt xt) (wq_iload 3 (wq_iconst (nI 0) (wq_iconst (nI 3) (wq_call ks_M_within 3 0 0 0 0 (wq_xout 0 0 xt) (wq_f1 (fun x => x = 0) (kt_M_rate_55 rt xt) (wq_iload 4 (wq_iconst (nI 0) (wq_iconst (nI 10000) (wq_call ks_M_within 3 0 0 0 0 (wq_xout 0 0 xt) (wq_f1 (fun x => x = 0) (kt_M_rate_55 rt xt) (wq_iload 5 (wq_iconst (nI 0) (wq_iconst (nI 10000) (wq_call ks_M_within 3 0 0 0 0 (wq_xout 0 0 xt) (wq_f1 (fun x => x = 0) (kt_M_rate_55 rt xt) (wq_iconst (nI 1) (kt_M_rate_56 rt xt))))))))))))))))))))))))))
def ks_M_rate : wq_S := wq_sp 9 (fun rt xt => kt_M_rate_0 rt xt)
set_option maxRecDepth 100000 in
set_option maxHeartbeats 4000000 in
theorem kv_M_rate {l : Launch} (hl : l.stackTraces = false) : wq_Vld l kz_cl ky_M_rate kw_T ({ frames := 1, cells := 0, slots := 0, locals := 22 }) wq_G0 ks_M_rate 0 0 := by
  refine wq_method (cc := kc_M_rate) (maxL := 9) (ret := (some .int)) (by decide) kw_1241 (fun _ _ => rfl) wq_sp_sz ?_
  intro p e s m args below meth c cs D ad as w rt xt hF hnt hsp
  obtain ⟨h0, hr, hts, hown, hlk, hnm, hml, hK, hZ, hN, hA⟩ := hF
  have hown : s.vm.findClass "BorderDeskModel" = some m.cls := hown
  obtain ⟨A, hAe⟩ : ∃ A, A = wq_A ad w s.heap.size := ⟨_, rfl⟩
  rw [← hAe] at hZ hA ⊢
  have hb_114 : wq_Snd p l e ({ frames := 1, cells := 0, slots := 0, locals := 22 } : Room) s m args below meth c 9 cs D kz_cl A (wq_G0 ad w) (wq_Q cs D kz_cl A (wq_G0 ad w) rt xt below s 0 0) 114 (kt_M_rate_114 rt xt) := by
    refine wq_aload_n_ok h0 kd_M_rate_114 rfl ?_
    refine wq_get_ok (wq_getOK h0 hts ki_M hown hK (ci := 9) rfl 11 (Nat.le_of_ble_eq_true rfl) kw_993 rfl) kd_M_rate_115 ?_
    refine wq_aload_n_ok h0 kd_M_rate_118 rfl ?_
    refine wq_get_ok (wq_getOK h0 hts ki_M hown hK (ci := 9) rfl 10 (Nat.le_of_ble_eq_true rfl) kw_992 rfl) kd_M_rate_119 ?_
    refine wq_iload_n_ok h0 kd_M_rate_122 rfl ?_
    refine wq_iast_ok h0 hK kd_M_rate_123 ?_
    refine wq_aload_n_ok h0 kd_M_rate_124 rfl ?_
    refine wq_get_ok (wq_getOK h0 hts ki_M hown hK (ci := 9) rfl 12 (Nat.le_of_ble_eq_true rfl) kw_994 rfl) kd_M_rate_125 ?_
    refine wq_aload_n_ok h0 kd_M_rate_128 rfl ?_
    refine wq_get_ok (wq_getOK h0 hts ki_M hown hK (ci := 9) rfl 10 (Nat.le_of_ble_eq_true rfl) kw_992 rfl) kd_M_rate_129 ?_
    refine wq_iload_n_ok h0 kd_M_rate_132 rfl ?_
    refine wq_iast_ok h0 hK kd_M_rate_133 ?_
    refine wq_aload_n_ok h0 kd_M_rate_134 rfl ?_
    refine wq_get_ok (wq_getOK h0 hts ki_M hown hK (ci := 9) rfl 13 (Nat.le_of_ble_eq_true rfl) kw_995 rfl) kd_M_rate_135 ?_
    refine wq_aload_n_ok h0 kd_M_rate_138 rfl ?_
    refine wq_get_ok (wq_getOK h0 hts ki_M hown hK (ci := 9) rfl 10 (Nat.le_of_ble_eq_true rfl) kw_992 rfl) kd_M_rate_139 ?_
    refine wq_iload_n_ok h0 kd_M_rate_142 rfl ?_
    refine wq_iast_ok h0 hK kd_M_rate_143 ?_
    refine wq_aload_n_ok h0 kd_M_rate_144 rfl ?_
    refine wq_get_ok (wq_getOK h0 hts ki_M hown hK (ci := 9) rfl 14 (Nat.le_of_ble_eq_true rfl) kw_996 rfl) kd_M_rate_145 ?_
    refine wq_aload_n_ok h0 kd_M_rate_148 rfl ?_
    refine wq_get_ok (wq_getOK h0 hts ki_M hown hK (ci := 9) rfl 10 (Nat.le_of_ble_eq_true rfl) kw_992 rfl) kd_M_rate_149 ?_
    refine wq_iload_ok h0 kd_M_rate_152 ?_
    refine wq_iast_ok h0 hK kd_M_rate_154 ?_
    refine wq_aload_n_ok h0 kd_M_rate_155 rfl ?_
    refine wq_get_ok (wq_getOK h0 hts ki_M hown hK (ci := 9) rfl 15 (Nat.le_of_ble_eq_true rfl) kw_997 rfl) kd_M_rate_156 ?_
    refine wq_aload_n_ok h0 kd_M_rate_159 rfl ?_
    refine wq_get_ok (wq_getOK h0 hts ki_M hown hK (ci := 9) rfl 10 (Nat.le_of_ble_eq_true rfl) kw_992 rfl) kd_M_rate_160 ?_
    refine wq_iload_ok h0 kd_M_rate_163 ?_
    refine wq_iast_ok h0 hK kd_M_rate_165 ?_
    refine wq_aload_n_ok h0 kd_M_rate_166 rfl ?_
    refine wq_get_ok (wq_getOK h0 hts ki_M hown hK (ci := 9) rfl 16 (Nat.le_of_ble_eq_true rfl) kw_998 rfl) kd_M_rate_167 ?_
    refine wq_aload_n_ok h0 kd_M_rate_170 rfl ?_
    refine wq_get_ok (wq_getOK h0 hts ki_M hown hK (ci := 9) rfl 10 (Nat.le_of_ble_eq_true rfl) kw_992 rfl) kd_M_rate_171 ?_
    refine wq_iload_ok h0 kd_M_rate_174 ?_
    refine wq_iast_ok h0 hK kd_M_rate_176 ?_
    refine wq_aload_n_ok h0 kd_M_rate_177 rfl ?_
    refine wq_get_ok (wq_getOK h0 hts ki_M hown hK (ci := 9) rfl 17 (Nat.le_of_ble_eq_true rfl) kw_999 rfl) kd_M_rate_178 ?_
    refine wq_aload_n_ok h0 kd_M_rate_181 rfl ?_
    refine wq_get_ok (wq_getOK h0 hts ki_M hown hK (ci := 9) rfl 10 (Nat.le_of_ble_eq_true rfl) kw_992 rfl) kd_M_rate_182 ?_
    refine wq_iload_ok h0 kd_M_rate_185 ?_
    refine wq_iast_ok h0 hK kd_M_rate_187 ?_
    refine wq_aload_n_ok h0 kd_M_rate_188 rfl ?_
    refine wq_dup_ok h0 kd_M_rate_189 ?_
    refine wq_get_ok (wq_getOK h0 hts ki_M hown hK (ci := 9) rfl 10 (Nat.le_of_ble_eq_true rfl) kw_992 rfl) kd_M_rate_190 ?_
    refine wq_iconst_ok h0 kd_M_rate_193 (by decide +kernel) ?_
    refine wq_iadd_ok h0 kd_M_rate_194 ?_
    refine wq_put_ok (wq_putOK h0 hts ki_M ka_M kb_M kn_M hown hK (ci := 9) rfl 10 (Nat.le_of_ble_eq_true rfl) kw_992 rfl (Or.inl rfl) wq_okI) kd_M_rate_195 ?_
    refine wq_aload_n_ok h0 kd_M_rate_198 rfl ?_
    refine wq_get_ok (wq_getOK h0 hts ki_M hown hK (ci := 9) rfl 10 (Nat.le_of_ble_eq_true rfl) kw_992 rfl) kd_M_rate_199 ?_
    refine wq_iconst_ok h0 kd_M_rate_202 (by decide +kernel) ?_
    refine wq_isub_ok h0 kd_M_rate_203 ?_
    exact wq_ireturn_ok h0 hr hlk kd_M_rate_204
  have hb_102 : wq_Snd p l e ({ frames := 1, cells := 0, slots := 0, locals := 22 } : Room) s m args below meth c 9 cs D kz_cl A (wq_G0 ad w) (wq_Q cs D kz_cl A (wq_G0 ad w) rt xt below s 0 0) 102 (kt_M_rate_102 rt xt) := by
    refine wq_put_ok (wq_putOK h0 hts ki_M ka_M kb_M kn_M hown hK (ci := 9) rfl 0 (Nat.le_of_ble_eq_true rfl) kw_982 rfl (Or.inl rfl) wq_okI) kd_M_rate_102 ?_
    refine wq_aload_n_ok h0 kd_M_rate_105 rfl ?_
    refine wq_get_ok (wq_getOK h0 hts ki_M hown hK (ci := 9) rfl 0 (Nat.le_of_ble_eq_true rfl) kw_982 rfl) kd_M_rate_106 ?_
    refine wq_if_le_ok (tgt := 114) h0 kd_M_rate_109 (by decide) ?_ ?_
    · exact hb_114
    refine wq_iconst_ok h0 kd_M_rate_112 (by decide +kernel) ?_
    exact wq_ireturn_ok h0 hr hlk kd_M_rate_113
  have hb_84 : wq_Snd p l e ({ frames := 1, cells := 0, slots := 0, locals := 22 } : Room) s m args below meth c 9 cs D kz_cl A (wq_G0 ad w) (wq_Q cs D kz_cl A (wq_G0 ad w) rt xt below s 0 0) 84 (kt_M_rate_84 rt xt) := by
    refine wq_iconst_ok h0 kd_M_rate_84 (by decide +kernel) ?_
    refine wq_goto_ok (tgt := 102) h0 kd_M_rate_85 (by decide) ?_
    exact hb_102
  have hb_101 : wq_Snd p l e ({ frames := 1, cells := 0, slots := 0, locals := 22 } : Room) s m args below meth c 9 cs D kz_cl A (wq_G0 ad w) (wq_Q cs D kz_cl A (wq_G0 ad w) rt xt below s 0 0) 101 (kt_M_rate_101 rt xt) := by
    refine wq_iconst_ok h0 kd_M_rate_101 (by decide +kernel) ?_
    exact hb_102
  have hb_88 : wq_Snd p l e ({ frames := 1, cells := 0, slots := 0, locals := 22 } : Room) s m args below meth c 9 cs D kz_cl A (wq_G0 ad w) (wq_Q cs D kz_cl A (wq_G0 ad w) rt xt below s 0 0) 88 (kt_M_rate_88 rt xt) := by
    refine wq_aload_n_ok h0 kd_M_rate_88 rfl ?_
    refine wq_get_ok (wq_getOK h0 hts ki_M hown hK (ci := 9) rfl 10 (Nat.le_of_ble_eq_true rfl) kw_992 rfl) kd_M_rate_89 ?_
    refine wq_bipush_ok h0 kd_M_rate_92 (by decide +kernel) ?_
    refine wq_icmp_ne_ok (tgt := 101) h0 kd_M_rate_94 (by decide) ?_ ?_
    · exact hb_101
    refine wq_iconst_ok h0 kd_M_rate_97 (by decide +kernel) ?_
    refine wq_goto_ok (tgt := 102) h0 kd_M_rate_98 (by decide) ?_
    exact hb_102
  have hb_56 : wq_Snd p l e ({ frames := 1, cells := 0, slots := 0, locals := 22 } : Room) s m args below meth c 9 cs D kz_cl A (wq_G0 ad w) (wq_Q cs D kz_cl A (wq_G0 ad w) rt xt below s 0 0) 56 (kt_M_rate_56 rt xt) := by
    refine wq_istore_ok h0 kd_M_rate_56 (Nat.le_of_ble_eq_true rfl) ?_
    refine wq_aload_n_ok h0 kd_M_rate_58 rfl ?_
    refine wq_iload_ok h0 kd_M_rate_59 ?_
    refine wq_if_eq_ok (tgt := 84) h0 kd_M_rate_61 (by decide) ?_ ?_
    · exact hb_84
    refine wq_iload_ok h0 kd_M_rate_64 ?_
    refine wq_if_lt_ok (tgt := 84) h0 kd_M_rate_66 (by decide) ?_ ?_
    · exact hb_84
    refine wq_iload_ok h0 kd_M_rate_69 ?_
    refine wq_iload_ok h0 kd_M_rate_71 ?_
    refine wq_icmp_gt_ok (tgt := 84) h0 kd_M_rate_73 (by decide) ?_ ?_
    · exact hb_84
    refine wq_iload_ok h0 kd_M_rate_76 ?_
    refine wq_sipush_ok h0 kd_M_rate_78 (by decide +kernel) ?_
    refine wq_icmp_le_ok (tgt := 88) h0 kd_M_rate_81 (by decide) ?_ ?_
    · exact hb_88
    exact hb_84
  have hb_55 : wq_Snd p l e ({ frames := 1, cells := 0, slots := 0, locals := 22 } : Room) s m args below meth c 9 cs D kz_cl A (wq_G0 ad w) (wq_Q cs D kz_cl A (wq_G0 ad w) rt xt below s 0 0) 55 (kt_M_rate_55 rt xt) := by
    refine wq_iconst_ok h0 kd_M_rate_55 (by decide +kernel) ?_
    exact hb_56
  have hb_0 : wq_Snd p l e ({ frames := 1, cells := 0, slots := 0, locals := 22 } : Room) s m args below meth c 9 cs D kz_cl A (wq_G0 ad w) (wq_Q cs D kz_cl A (wq_G0 ad w) rt xt below s 0 0) 0 (kt_M_rate_0 rt xt) := by
    refine wq_aload_n_ok h0 kd_M_rate_0 rfl ?_
    refine wq_iload_n_ok h0 kd_M_rate_1 rfl ?_
    refine wq_call_ok hA (wq_runV (ci := 9) ⟨h0.1, h0.2, hml, hown, hts⟩ (kv_M_isHeading hl) ⟨(wq_cB hts kw_G kw_1198 kw_10 kw_1195 ⟨by decide +kernel, by decide +kernel, by decide +kernel⟩ rfl rfl ⟨Nat.le_of_ble_eq_true rfl, Nat.le_of_ble_eq_true rfl⟩), hts _ kw_1197, hts _ kw_s28⟩ rfl rfl hK hZ hN hA kd_M_rate_2) (wq_xout_ok hnt hlk) ?_
    refine wq_if_eq_ok (tgt := 55) h0 kd_M_rate_5 (by decide) ?_ ?_
    · exact hb_55
    refine wq_iload_n_ok h0 kd_M_rate_8 rfl ?_
    refine wq_iconst_ok h0 kd_M_rate_9 (by decide +kernel) ?_
    refine wq_bipush_ok h0 kd_M_rate_10 (by decide +kernel) ?_
    refine wq_call_ok hA (wq_runS ⟨h0.1, h0.2, hml, hown, hts⟩ (kv_M_within hl) ⟨(wq_cB hts kw_G kw_1209 kw_10 kw_1207 ⟨by decide +kernel, by decide +kernel, by decide +kernel⟩ rfl rfl ⟨Nat.le_of_ble_eq_true rfl, Nat.le_of_ble_eq_true rfl⟩), hts _ kw_1208⟩ hK hZ hN hA kd_M_rate_12) (wq_xout_ok hnt hlk) ?_
    refine wq_if_eq_ok (tgt := 55) h0 kd_M_rate_15 (by decide) ?_ ?_
    · exact hb_55
    refine wq_iload_n_ok h0 kd_M_rate_18 rfl ?_
    refine wq_iconst_ok h0 kd_M_rate_19 (by decide +kernel) ?_
    refine wq_iconst_ok h0 kd_M_rate_20 (by decide +kernel) ?_
    refine wq_call_ok hA (wq_runS ⟨h0.1, h0.2, hml, hown, hts⟩ (kv_M_within hl) ⟨(wq_cB hts kw_G kw_1209 kw_10 kw_1207 ⟨by decide +kernel, by decide +kernel, by decide +kernel⟩ rfl rfl ⟨Nat.le_of_ble_eq_true rfl, Nat.le_of_ble_eq_true rfl⟩), hts _ kw_1208⟩ hK hZ hN hA kd_M_rate_21) (wq_xout_ok hnt hlk) ?_
    refine wq_if_eq_ok (tgt := 55) h0 kd_M_rate_24 (by decide) ?_ ?_
    · exact hb_55
    refine wq_iload_ok h0 kd_M_rate_27 ?_
    refine wq_iconst_ok h0 kd_M_rate_29 (by decide +kernel) ?_
    refine wq_sipush_ok h0 kd_M_rate_30 (by decide +kernel) ?_
    refine wq_call_ok hA (wq_runS ⟨h0.1, h0.2, hml, hown, hts⟩ (kv_M_within hl) ⟨(wq_cB hts kw_G kw_1209 kw_10 kw_1207 ⟨by decide +kernel, by decide +kernel, by decide +kernel⟩ rfl rfl ⟨Nat.le_of_ble_eq_true rfl, Nat.le_of_ble_eq_true rfl⟩), hts _ kw_1208⟩ hK hZ hN hA kd_M_rate_33) (wq_xout_ok hnt hlk) ?_
    refine wq_if_eq_ok (tgt := 55) h0 kd_M_rate_36 (by decide) ?_ ?_
    · exact hb_55
    refine wq_iload_ok h0 kd_M_rate_39 ?_
    refine wq_iconst_ok h0 kd_M_rate_41 (by decide +kernel) ?_
    refine wq_sipush_ok h0 kd_M_rate_42 (by decide +kernel) ?_
    refine wq_call_ok hA (wq_runS ⟨h0.1, h0.2, hml, hown, hts⟩ (kv_M_within hl) ⟨(wq_cB hts kw_G kw_1209 kw_10 kw_1207 ⟨by decide +kernel, by decide +kernel, by decide +kernel⟩ rfl rfl ⟨Nat.le_of_ble_eq_true rfl, Nat.le_of_ble_eq_true rfl⟩), hts _ kw_1208⟩ hK hZ hN hA kd_M_rate_45) (wq_xout_ok hnt hlk) ?_
    refine wq_if_eq_ok (tgt := 55) h0 kd_M_rate_48 (by decide) ?_ ?_
    · exact hb_55
    refine wq_iconst_ok h0 kd_M_rate_51 (by decide +kernel) ?_
    refine wq_goto_ok (tgt := 56) h0 kd_M_rate_52 (by decide) ?_
    exact hb_56
  exact hb_0 _ _ _ _ _ (wq_sp_t hsp)
-- BorderDeskModel.rateFor(III)I
def kt_M_rateFor_56 (rt : Option wq_V → wq_W → Prop) (xt : Nat → wq_W → Prop) : wq_T := (wq_ireturn 0 0 rt)
def kt_M_rateFor_49 (rt : Option wq_V → wq_W → Prop) (xt : Nat → wq_W → Prop) : wq_T := (wq_aload 0 (wq_iload 1 (wq_iload 2 (wq_iload 3 (wq_call (wq_rv 9 wq_no) 4 0 0 0 0 (wq_xout 0 0 xt) (kt_M_rateFor_56 rt xt))))))
def kt_M_rateFor_35 (rt : Option wq_V → wq_W → Prop) (xt : Nat → wq_W → Prop) : wq_T := (wq_put 9 0 wq_isI (wq_aload 0 (wq_get 9 0 (wq_f1 (fun x => x ≤ 0) (kt_M_rateFor_49 rt xt) (wq_iconst (nI 0) (kt_M_rateFor_56 rt xt))))))
def kt_M_rateFor_34 (rt : Option wq_V → wq_W → Prop) (xt : Nat → wq_W → Prop) : wq_T := (wq_iconst (nI 1) (kt_M_rateFor_35 rt xt))
def kt_M_rateFor_0 (rt : Option wq_V → wq_W → Prop) (xt : Nat → wq_W → Prop) : wq_T := (wq_aload 0 (wq_aload 0 (wq_iload 1 (wq_call (wq_rv 9 ks_M_isHeading) 2 0 0 0 0 (wq_xout 0 0 xt) (wq_f1 (fun x => x = 0) (kt_M_rateFor_34 rt xt) (wq_iload 2 (wq_iconst (nI 0) (wq_iconst (nI 7) (wq_call ks_M_within 3 0 0 0 0 (wq_xout 0 0 xt) (wq_f1 (fun x => x = 0) (kt_M_rateFor_34 rt xt) (wq_iload 3 (wq_iconst (nI 0) (wq_iconst (nI 9999) (wq_call ks_M_within 3 0 0 0 0 (wq_xout 0 0 xt) (wq_f1 (fun x => x = 0) (kt_M_rateFor_34 rt xt) (wq_iconst (nI 0) (kt_M_rateFor_35 rt xt)))))))))))))))))
def ks_M_rateFor : wq_S := wq_sp 4 (fun rt xt => kt_M_rateFor_0 rt xt)
set_option maxRecDepth 100000 in
set_option maxHeartbeats 4000000 in
theorem kv_M_rateFor {l : Launch} (hl : l.stackTraces = false) : wq_Vld l kz_cl ky_M_rateFor kw_T ({ frames := 1, cells := 0, slots := 0, locals := 25 }) wq_G0 ks_M_rateFor 0 0 := by
  refine wq_method (cc := kc_M_rateFor) (maxL := 4) (ret := (some .int)) (by decide) kw_1245 (fun _ _ => rfl) wq_sp_sz ?_
  intro p e s m args below meth c cs D ad as w rt xt hF hnt hsp
  obtain ⟨h0, hr, hts, hown, hlk, hnm, hml, hK, hZ, hN, hA⟩ := hF
  have hown : s.vm.findClass "BorderDeskModel" = some m.cls := hown
  obtain ⟨A, hAe⟩ : ∃ A, A = wq_A ad w s.heap.size := ⟨_, rfl⟩
  rw [← hAe] at hZ hA ⊢
  have hb_56 : wq_Snd p l e ({ frames := 1, cells := 0, slots := 0, locals := 25 } : Room) s m args below meth c 4 cs D kz_cl A (wq_G0 ad w) (wq_Q cs D kz_cl A (wq_G0 ad w) rt xt below s 0 0) 56 (kt_M_rateFor_56 rt xt) := by
    exact wq_ireturn_ok h0 hr hlk kd_M_rateFor_56
  have hb_49 : wq_Snd p l e ({ frames := 1, cells := 0, slots := 0, locals := 25 } : Room) s m args below meth c 4 cs D kz_cl A (wq_G0 ad w) (wq_Q cs D kz_cl A (wq_G0 ad w) rt xt below s 0 0) 49 (kt_M_rateFor_49 rt xt) := by
    refine wq_aload_n_ok h0 kd_M_rateFor_49 rfl ?_
    refine wq_iload_n_ok h0 kd_M_rateFor_50 rfl ?_
    refine wq_iload_n_ok h0 kd_M_rateFor_51 rfl ?_
    refine wq_iload_n_ok h0 kd_M_rateFor_52 rfl ?_
    refine wq_call_ok hA (wq_runV (ci := 9) ⟨h0.1, h0.2, hml, hown, hts⟩ (wq_no_ok (y := ({ cls := "BorderDeskModel", name := "rateOf", desc := "(III)I" } : Jvm.MethodName)) (ws := kw_T) (rm := { frames := 0, cells := 0, slots := 0, locals := 0 }) (mc := 0) (ms := 0)) ⟨(wq_cB hts kw_G kw_1249 kw_10 kw_1246 ⟨by decide +kernel, by decide +kernel, by decide +kernel⟩ rfl rfl ⟨Nat.le_of_ble_eq_true rfl, Nat.le_of_ble_eq_true rfl⟩), hts _ kw_1248, hts _ kw_s35⟩ rfl rfl hK hZ hN hA kd_M_rateFor_53) (wq_xout_ok hnt hlk) ?_
    exact hb_56
  have hb_35 : wq_Snd p l e ({ frames := 1, cells := 0, slots := 0, locals := 25 } : Room) s m args below meth c 4 cs D kz_cl A (wq_G0 ad w) (wq_Q cs D kz_cl A (wq_G0 ad w) rt xt below s 0 0) 35 (kt_M_rateFor_35 rt xt) := by
    refine wq_put_ok (wq_putOK h0 hts ki_M ka_M kb_M kn_M hown hK (ci := 9) rfl 0 (Nat.le_of_ble_eq_true rfl) kw_982 rfl (Or.inl rfl) wq_okI) kd_M_rateFor_35 ?_
    refine wq_aload_n_ok h0 kd_M_rateFor_38 rfl ?_
    refine wq_get_ok (wq_getOK h0 hts ki_M hown hK (ci := 9) rfl 0 (Nat.le_of_ble_eq_true rfl) kw_982 rfl) kd_M_rateFor_39 ?_
    refine wq_if_le_ok (tgt := 49) h0 kd_M_rateFor_42 (by decide) ?_ ?_
    · exact hb_49
    refine wq_iconst_ok h0 kd_M_rateFor_45 (by decide +kernel) ?_
    refine wq_goto_ok (tgt := 56) h0 kd_M_rateFor_46 (by decide) ?_
    exact hb_56
  have hb_34 : wq_Snd p l e ({ frames := 1, cells := 0, slots := 0, locals := 25 } : Room) s m args below meth c 4 cs D kz_cl A (wq_G0 ad w) (wq_Q cs D kz_cl A (wq_G0 ad w) rt xt below s 0 0) 34 (kt_M_rateFor_34 rt xt) := by
    refine wq_iconst_ok h0 kd_M_rateFor_34 (by decide +kernel) ?_
    exact hb_35
  have hb_0 : wq_Snd p l e ({ frames := 1, cells := 0, slots := 0, locals := 25 } : Room) s m args below meth c 4 cs D kz_cl A (wq_G0 ad w) (wq_Q cs D kz_cl A (wq_G0 ad w) rt xt below s 0 0) 0 (kt_M_rateFor_0 rt xt) := by
    refine wq_aload_n_ok h0 kd_M_rateFor_0 rfl ?_
    refine wq_aload_n_ok h0 kd_M_rateFor_1 rfl ?_
    refine wq_iload_n_ok h0 kd_M_rateFor_2 rfl ?_
    refine wq_call_ok hA (wq_runV (ci := 9) ⟨h0.1, h0.2, hml, hown, hts⟩ (kv_M_isHeading hl) ⟨(wq_cB hts kw_G kw_1198 kw_10 kw_1195 ⟨by decide +kernel, by decide +kernel, by decide +kernel⟩ rfl rfl ⟨Nat.le_of_ble_eq_true rfl, Nat.le_of_ble_eq_true rfl⟩), hts _ kw_1197, hts _ kw_s28⟩ rfl rfl hK hZ hN hA kd_M_rateFor_3) (wq_xout_ok hnt hlk) ?_
    refine wq_if_eq_ok (tgt := 34) h0 kd_M_rateFor_6 (by decide) ?_ ?_
    · exact hb_34
    refine wq_iload_n_ok h0 kd_M_rateFor_9 rfl ?_
    refine wq_iconst_ok h0 kd_M_rateFor_10 (by decide +kernel) ?_
    refine wq_bipush_ok h0 kd_M_rateFor_11 (by decide +kernel) ?_
    refine wq_call_ok hA (wq_runS ⟨h0.1, h0.2, hml, hown, hts⟩ (kv_M_within hl) ⟨(wq_cB hts kw_G kw_1209 kw_10 kw_1207 ⟨by decide +kernel, by decide +kernel, by decide +kernel⟩ rfl rfl ⟨Nat.le_of_ble_eq_true rfl, Nat.le_of_ble_eq_true rfl⟩), hts _ kw_1208⟩ hK hZ hN hA kd_M_rateFor_13) (wq_xout_ok hnt hlk) ?_
    refine wq_if_eq_ok (tgt := 34) h0 kd_M_rateFor_16 (by decide) ?_ ?_
    · exact hb_34
    refine wq_iload_n_ok h0 kd_M_rateFor_19 rfl ?_
    refine wq_iconst_ok h0 kd_M_rateFor_20 (by decide +kernel) ?_
    refine wq_sipush_ok h0 kd_M_rateFor_21 (by decide +kernel) ?_
    refine wq_call_ok hA (wq_runS ⟨h0.1, h0.2, hml, hown, hts⟩ (kv_M_within hl) ⟨(wq_cB hts kw_G kw_1209 kw_10 kw_1207 ⟨by decide +kernel, by decide +kernel, by decide +kernel⟩ rfl rfl ⟨Nat.le_of_ble_eq_true rfl, Nat.le_of_ble_eq_true rfl⟩), hts _ kw_1208⟩ hK hZ hN hA kd_M_rateFor_24) (wq_xout_ok hnt hlk) ?_
    refine wq_if_eq_ok (tgt := 34) h0 kd_M_rateFor_27 (by decide) ?_ ?_
    · exact hb_34
    refine wq_iconst_ok h0 kd_M_rateFor_30 (by decide +kernel) ?_
    refine wq_goto_ok (tgt := 35) h0 kd_M_rateFor_31 (by decide) ?_
    exact hb_35
  exact hb_0 _ _ _ _ _ (wq_sp_t hsp)
-- BorderDeskModel.quota(IIIIII)I
def kt_M_quota_103 (rt : Option wq_V → wq_W → Prop) (xt : Nat → wq_W → Prop) : wq_T := (wq_aload 0 (wq_get 9 19 (wq_aload 0 (wq_get 9 18 (wq_iload 1 (wq_iast (wq_aload 0 (wq_get 9 20 (wq_aload 0 (wq_get 9 18 (wq_iload 2 (wq_iast (wq_aload 0 (wq_get 9 21 (wq_aload 0 (wq_get 9 18 (wq_iload 4 (wq_iast (wq_aload 0 (wq_get 9 22 (wq_aload 0 (wq_get 9 18 (wq_iload 5 (wq_iast (wq_aload 0 (wq_get 9 23 (wq_aload 0 (wq_get 9 18 (wq_iload 6 (wq_iast (wq_aload 0 (wq_get 9 24 (wq_aload 0 (wq_get 9 18 (wq_iload 3 (wq_iast (wq_aload 0 (wq_dup (wq_get 9 18 (wq_iconst (nI 1) (wq_i2 (fun x y => x + y) (wq_put 9 18 wq_isI (wq_aload 0 (wq_get 9 18 (wq_iconst (nI 1) (wq_i2 (fun x y => x - y) (wq_ireturn 0 0 rt)))))))))))))))))))))))))))))))))))))))))))))))
def kt_M_quota_91 (rt : Option wq_V → wq_W → Prop) (xt : Nat → wq_W → Prop) : wq_T := (wq_put 9 0 wq_isI (wq_aload 0 (wq_get 9 0 (wq_f1 (fun x => x ≤ 0) (kt_M_quota_103 rt xt) (wq_iconst (nI 0) (wq_ireturn 0 0 rt))))))
def kt_M_quota_73 (rt : Option wq_V → wq_W → Prop) (xt : Nat → wq_W → Prop) : wq_T := (wq_iconst (nI 1) (kt_M_quota_91 rt xt))
def kt_M_quota_90 (rt : Option wq_V → wq_W → Prop) (xt : Nat → wq_W → Prop) : wq_T := (wq_iconst (nI 0) (kt_M_quota_91 rt xt))
def kt_M_quota_77 (rt : Option wq_V → wq_W → Prop) (xt : Nat → wq_W → Prop) : wq_T := (wq_aload 0 (wq_get 9 18 (wq_iconst (nI 8) (wq_f2 (fun x y => x = y) (wq_iconst (nI 2) (kt_M_quota_91 rt xt)) (kt_M_quota_90 rt xt)))))
def kt_M_quota_45 (rt : Option wq_V → wq_W → Prop) (xt : Nat → wq_W → Prop) : wq_T := (wq_istore 7 (wq_aload 0 (wq_iload 7 (wq_f1 (fun x => x = 0) (kt_M_quota_73 rt xt) (wq_iload 5 (wq_f1 (fun x => x < 0) (kt_M_quota_73 rt xt) (wq_iload 5 (wq_iload 6 (wq_f2 (fun x y => y < x) (kt_M_quota_73 rt xt) (wq_iload 6 (wq_iconst (nI 9999) (wq_f2 (fun x y => x ≤ y) (kt_M_quota_77 rt xt) (kt_M_quota_73 rt xt)))))))))))))
def kt_M_quota_44 (rt : Option wq_V → wq_W → Prop) (xt : Nat → wq_W → Prop) : wq_T := (wq_iconst (nI 0) (kt_M_quota_45 rt xt))
def kt_M_quota_0 (rt : Option wq_V → wq_W → Prop) (xt : Nat → wq_W → Prop) : wq_T := (wq_aload 0 (wq_iload 1 (wq_call (wq_rv 9 ks_M_isHeading) 2 0 0 0 0 (wq_xout 0 0 xt) (wq_f1 (fun x => x = 0) (kt_M_quota_44 rt xt) (wq_iload 2 (wq_iconst (nI 0) (wq_iconst (nI 7) (wq_call ks_M_within 3 0 0 0 0 (wq_xout 0 0 xt) (wq_f1 (fun x => x = 0) (kt_M_quota_44 rt xt) (wq_iload 3 (wq_iconst (nI 1) (wq_iconst (100000) (wq_call ks_M_within 3 0 0 0 0 (wq_xout 0 0 xt) (wq_f1 (fun x => x = 0) (kt_M_quota_44 rt xt) (wq_iload 4 (wq_iconst (nI 0) (wq_iconst (nI 10000) (wq_call ks_M_within 3 0 0 0 0 (wq_xout 0 0 xt) (wq_f1 (fun x => x = 0) (kt_M_quota_44 rt xt) (wq_iconst (nI 1) (kt_M_quota_45 rt xt)))))))))))))))))))))
def ks_M_quota : wq_S := wq_sp 8 (fun rt xt => kt_M_quota_0 rt xt)
set_option maxRecDepth 100000 in
set_option maxHeartbeats 4000000 in
theorem kv_M_quota {l : Launch} (hl : l.stackTraces = false) : wq_Vld l kz_cl ky_M_quota kw_T ({ frames := 1, cells := 0, slots := 0, locals := 22 }) wq_G0 ks_M_quota 0 0 := by
  refine wq_method (cc := kc_M_quota) (maxL := 8) (ret := (some .int)) (by decide) kw_1257 (fun _ _ => rfl) wq_sp_sz ?_
  intro p e s m args below meth c cs D ad as w rt xt hF hnt hsp
  obtain ⟨h0, hr, hts, hown, hlk, hnm, hml, hK, hZ, hN, hA⟩ := hF
  have hown : s.vm.findClass "BorderDeskModel" = some m.cls := hown
  obtain ⟨A, hAe⟩ : ∃ A, A = wq_A ad w s.heap.size := ⟨_, rfl⟩
  rw [← hAe] at hZ hA ⊢
  have hb_103 : wq_Snd p l e ({ frames := 1, cells := 0, slots := 0, locals := 22 } : Room) s m args below meth c 8 cs D kz_cl A (wq_G0 ad w) (wq_Q cs D kz_cl A (wq_G0 ad w) rt xt below s 0 0) 103 (kt_M_quota_103 rt xt) := by
    refine wq_aload_n_ok h0 kd_M_quota_103 rfl ?_
    refine wq_get_ok (wq_getOK h0 hts ki_M hown hK (ci := 9) rfl 19 (Nat.le_of_ble_eq_true rfl) kw_1001 rfl) kd_M_quota_104 ?_
    refine wq_aload_n_ok h0 kd_M_quota_107 rfl ?_
    refine wq_get_ok (wq_getOK h0 hts ki_M hown hK (ci := 9) rfl 18 (Nat.le_of_ble_eq_true rfl) kw_1000 rfl) kd_M_quota_108 ?_
    refine wq_iload_n_ok h0 kd_M_quota_111 rfl ?_
    refine wq_iast_ok h0 hK kd_M_quota_112 ?_
    refine wq_aload_n_ok h0 kd_M_quota_113 rfl ?_
    refine wq_get_ok (wq_getOK h0 hts ki_M hown hK (ci := 9) rfl 20 (Nat.le_of_ble_eq_true rfl) kw_1002 rfl) kd_M_quota_114 ?_
    refine wq_aload_n_ok h0 kd_M_quota_117 rfl ?_
    refine wq_get_ok (wq_getOK h0 hts ki_M hown hK (ci := 9) rfl 18 (Nat.le_of_ble_eq_true rfl) kw_1000 rfl) kd_M_quota_118 ?_
    refine wq_iload_n_ok h0 kd_M_quota_121 rfl ?_
    refine wq_iast_ok h0 hK kd_M_quota_122 ?_
    refine wq_aload_n_ok h0 kd_M_quota_123 rfl ?_
    refine wq_get_ok (wq_getOK h0 hts ki_M hown hK (ci := 9) rfl 21 (Nat.le_of_ble_eq_true rfl) kw_1003 rfl) kd_M_quota_124 ?_
    refine wq_aload_n_ok h0 kd_M_quota_127 rfl ?_
    refine wq_get_ok (wq_getOK h0 hts ki_M hown hK (ci := 9) rfl 18 (Nat.le_of_ble_eq_true rfl) kw_1000 rfl) kd_M_quota_128 ?_
    refine wq_iload_ok h0 kd_M_quota_131 ?_
    refine wq_iast_ok h0 hK kd_M_quota_133 ?_
    refine wq_aload_n_ok h0 kd_M_quota_134 rfl ?_
    refine wq_get_ok (wq_getOK h0 hts ki_M hown hK (ci := 9) rfl 22 (Nat.le_of_ble_eq_true rfl) kw_1004 rfl) kd_M_quota_135 ?_
    refine wq_aload_n_ok h0 kd_M_quota_138 rfl ?_
    refine wq_get_ok (wq_getOK h0 hts ki_M hown hK (ci := 9) rfl 18 (Nat.le_of_ble_eq_true rfl) kw_1000 rfl) kd_M_quota_139 ?_
    refine wq_iload_ok h0 kd_M_quota_142 ?_
    refine wq_iast_ok h0 hK kd_M_quota_144 ?_
    refine wq_aload_n_ok h0 kd_M_quota_145 rfl ?_
    refine wq_get_ok (wq_getOK h0 hts ki_M hown hK (ci := 9) rfl 23 (Nat.le_of_ble_eq_true rfl) kw_1005 rfl) kd_M_quota_146 ?_
    refine wq_aload_n_ok h0 kd_M_quota_149 rfl ?_
    refine wq_get_ok (wq_getOK h0 hts ki_M hown hK (ci := 9) rfl 18 (Nat.le_of_ble_eq_true rfl) kw_1000 rfl) kd_M_quota_150 ?_
    refine wq_iload_ok h0 kd_M_quota_153 ?_
    refine wq_iast_ok h0 hK kd_M_quota_155 ?_
    refine wq_aload_n_ok h0 kd_M_quota_156 rfl ?_
    refine wq_get_ok (wq_getOK h0 hts ki_M hown hK (ci := 9) rfl 24 (Nat.le_of_ble_eq_true rfl) kw_1006 rfl) kd_M_quota_157 ?_
    refine wq_aload_n_ok h0 kd_M_quota_160 rfl ?_
    refine wq_get_ok (wq_getOK h0 hts ki_M hown hK (ci := 9) rfl 18 (Nat.le_of_ble_eq_true rfl) kw_1000 rfl) kd_M_quota_161 ?_
    refine wq_iload_n_ok h0 kd_M_quota_164 rfl ?_
    refine wq_iast_ok h0 hK kd_M_quota_165 ?_
    refine wq_aload_n_ok h0 kd_M_quota_166 rfl ?_
    refine wq_dup_ok h0 kd_M_quota_167 ?_
    refine wq_get_ok (wq_getOK h0 hts ki_M hown hK (ci := 9) rfl 18 (Nat.le_of_ble_eq_true rfl) kw_1000 rfl) kd_M_quota_168 ?_
    refine wq_iconst_ok h0 kd_M_quota_171 (by decide +kernel) ?_
    refine wq_iadd_ok h0 kd_M_quota_172 ?_
    refine wq_put_ok (wq_putOK h0 hts ki_M ka_M kb_M kn_M hown hK (ci := 9) rfl 18 (Nat.le_of_ble_eq_true rfl) kw_1000 rfl (Or.inl rfl) wq_okI) kd_M_quota_173 ?_
    refine wq_aload_n_ok h0 kd_M_quota_176 rfl ?_
    refine wq_get_ok (wq_getOK h0 hts ki_M hown hK (ci := 9) rfl 18 (Nat.le_of_ble_eq_true rfl) kw_1000 rfl) kd_M_quota_177 ?_
    refine wq_iconst_ok h0 kd_M_quota_180 (by decide +kernel) ?_
    refine wq_isub_ok h0 kd_M_quota_181 ?_
    exact wq_ireturn_ok h0 hr hlk kd_M_quota_182
  have hb_91 : wq_Snd p l e ({ frames := 1, cells := 0, slots := 0, locals := 22 } : Room) s m args below meth c 8 cs D kz_cl A (wq_G0 ad w) (wq_Q cs D kz_cl A (wq_G0 ad w) rt xt below s 0 0) 91 (kt_M_quota_91 rt xt) := by
    refine wq_put_ok (wq_putOK h0 hts ki_M ka_M kb_M kn_M hown hK (ci := 9) rfl 0 (Nat.le_of_ble_eq_true rfl) kw_982 rfl (Or.inl rfl) wq_okI) kd_M_quota_91 ?_
    refine wq_aload_n_ok h0 kd_M_quota_94 rfl ?_
    refine wq_get_ok (wq_getOK h0 hts ki_M hown hK (ci := 9) rfl 0 (Nat.le_of_ble_eq_true rfl) kw_982 rfl) kd_M_quota_95 ?_
    refine wq_if_le_ok (tgt := 103) h0 kd_M_quota_98 (by decide) ?_ ?_
    · exact hb_103
    refine wq_iconst_ok h0 kd_M_quota_101 (by decide +kernel) ?_
    exact wq_ireturn_ok h0 hr hlk kd_M_quota_102
  have hb_73 : wq_Snd p l e ({ frames := 1, cells := 0, slots := 0, locals := 22 } : Room) s m args below meth c 8 cs D kz_cl A (wq_G0 ad w) (wq_Q cs D kz_cl A (wq_G0 ad w) rt xt below s 0 0) 73 (kt_M_quota_73 rt xt) := by
    refine wq_iconst_ok h0 kd_M_quota_73 (by decide +kernel) ?_
    refine wq_goto_ok (tgt := 91) h0 kd_M_quota_74 (by decide) ?_
    exact hb_91
  have hb_90 : wq_Snd p l e ({ frames := 1, cells := 0, slots := 0, locals := 22 } : Room) s m args below meth c 8 cs D kz_cl A (wq_G0 ad w) (wq_Q cs D kz_cl A (wq_G0 ad w) rt xt below s 0 0) 90 (kt_M_quota_90 rt xt) := by
    refine wq_iconst_ok h0 kd_M_quota_90 (by decide +kernel) ?_
    exact hb_91
  have hb_77 : wq_Snd p l e ({ frames := 1, cells := 0, slots := 0, locals := 22 } : Room) s m args below meth c 8 cs D kz_cl A (wq_G0 ad w) (wq_Q cs D kz_cl A (wq_G0 ad w) rt xt below s 0 0) 77 (kt_M_quota_77 rt xt) := by
    refine wq_aload_n_ok h0 kd_M_quota_77 rfl ?_
    refine wq_get_ok (wq_getOK h0 hts ki_M hown hK (ci := 9) rfl 18 (Nat.le_of_ble_eq_true rfl) kw_1000 rfl) kd_M_quota_78 ?_
    refine wq_bipush_ok h0 kd_M_quota_81 (by decide +kernel) ?_
    refine wq_icmp_ne_ok (tgt := 90) h0 kd_M_quota_83 (by decide) ?_ ?_
    · exact hb_90
    refine wq_iconst_ok h0 kd_M_quota_86 (by decide +kernel) ?_
    refine wq_goto_ok (tgt := 91) h0 kd_M_quota_87 (by decide) ?_
    exact hb_91
  have hb_45 : wq_Snd p l e ({ frames := 1, cells := 0, slots := 0, locals := 22 } : Room) s m args below meth c 8 cs D kz_cl A (wq_G0 ad w) (wq_Q cs D kz_cl A (wq_G0 ad w) rt xt below s 0 0) 45 (kt_M_quota_45 rt xt) := by
    refine wq_istore_ok h0 kd_M_quota_45 (Nat.le_of_ble_eq_true rfl) ?_
    refine wq_aload_n_ok h0 kd_M_quota_47 rfl ?_
    refine wq_iload_ok h0 kd_M_quota_48 ?_
    refine wq_if_eq_ok (tgt := 73) h0 kd_M_quota_50 (by decide) ?_ ?_
    · exact hb_73
    refine wq_iload_ok h0 kd_M_quota_53 ?_
    refine wq_if_lt_ok (tgt := 73) h0 kd_M_quota_55 (by decide) ?_ ?_
    · exact hb_73
    refine wq_iload_ok h0 kd_M_quota_58 ?_
    refine wq_iload_ok h0 kd_M_quota_60 ?_
    refine wq_icmp_gt_ok (tgt := 73) h0 kd_M_quota_62 (by decide) ?_ ?_
    · exact hb_73
    refine wq_iload_ok h0 kd_M_quota_65 ?_
    refine wq_sipush_ok h0 kd_M_quota_67 (by decide +kernel) ?_
    refine wq_icmp_le_ok (tgt := 77) h0 kd_M_quota_70 (by decide) ?_ ?_
    · exact hb_77
    exact hb_73
  have hb_44 : wq_Snd p l e ({ frames := 1, cells := 0, slots := 0, locals := 22 } : Room) s m args below meth c 8 cs D kz_cl A (wq_G0 ad w) (wq_Q cs D kz_cl A (wq_G0 ad w) rt xt below s 0 0) 44 (kt_M_quota_44 rt xt) := by
    refine wq_iconst_ok h0 kd_M_quota_44 (by decide +kernel) ?_
    exact hb_45
  have hb_0 : wq_Snd p l e ({ frames := 1, cells := 0, slots := 0, locals := 22 } : Room) s m args below meth c 8 cs D kz_cl A (wq_G0 ad w) (wq_Q cs D kz_cl A (wq_G0 ad w) rt xt below s 0 0) 0 (kt_M_quota_0 rt xt) := by
    refine wq_aload_n_ok h0 kd_M_quota_0 rfl ?_
    refine wq_iload_n_ok h0 kd_M_quota_1 rfl ?_
    refine wq_call_ok hA (wq_runV (ci := 9) ⟨h0.1, h0.2, hml, hown, hts⟩ (kv_M_isHeading hl) ⟨(wq_cB hts kw_G kw_1198 kw_10 kw_1195 ⟨by decide +kernel, by decide +kernel, by decide +kernel⟩ rfl rfl ⟨Nat.le_of_ble_eq_true rfl, Nat.le_of_ble_eq_true rfl⟩), hts _ kw_1197, hts _ kw_s28⟩ rfl rfl hK hZ hN hA kd_M_quota_2) (wq_xout_ok hnt hlk) ?_
    refine wq_if_eq_ok (tgt := 44) h0 kd_M_quota_5 (by decide) ?_ ?_
    · exact hb_44
    refine wq_iload_n_ok h0 kd_M_quota_8 rfl ?_
    refine wq_iconst_ok h0 kd_M_quota_9 (by decide +kernel) ?_
    refine wq_bipush_ok h0 kd_M_quota_10 (by decide +kernel) ?_
    refine wq_call_ok hA (wq_runS ⟨h0.1, h0.2, hml, hown, hts⟩ (kv_M_within hl) ⟨(wq_cB hts kw_G kw_1209 kw_10 kw_1207 ⟨by decide +kernel, by decide +kernel, by decide +kernel⟩ rfl rfl ⟨Nat.le_of_ble_eq_true rfl, Nat.le_of_ble_eq_true rfl⟩), hts _ kw_1208⟩ hK hZ hN hA kd_M_quota_12) (wq_xout_ok hnt hlk) ?_
    refine wq_if_eq_ok (tgt := 44) h0 kd_M_quota_15 (by decide) ?_ ?_
    · exact hb_44
    refine wq_iload_n_ok h0 kd_M_quota_18 rfl ?_
    refine wq_iconst_ok h0 kd_M_quota_19 (by decide +kernel) ?_
    refine wq_ldc_ok (v := 100000) h0 hown (hts _ kw_1258) kd_M_quota_20 ?_
    refine wq_call_ok hA (wq_runS ⟨h0.1, h0.2, hml, hown, hts⟩ (kv_M_within hl) ⟨(wq_cB hts kw_G kw_1209 kw_10 kw_1207 ⟨by decide +kernel, by decide +kernel, by decide +kernel⟩ rfl rfl ⟨Nat.le_of_ble_eq_true rfl, Nat.le_of_ble_eq_true rfl⟩), hts _ kw_1208⟩ hK hZ hN hA kd_M_quota_22) (wq_xout_ok hnt hlk) ?_
    refine wq_if_eq_ok (tgt := 44) h0 kd_M_quota_25 (by decide) ?_ ?_
    · exact hb_44
    refine wq_iload_ok h0 kd_M_quota_28 ?_
    refine wq_iconst_ok h0 kd_M_quota_30 (by decide +kernel) ?_
    refine wq_sipush_ok h0 kd_M_quota_31 (by decide +kernel) ?_
    refine wq_call_ok hA (wq_runS ⟨h0.1, h0.2, hml, hown, hts⟩ (kv_M_within hl) ⟨(wq_cB hts kw_G kw_1209 kw_10 kw_1207 ⟨by decide +kernel, by decide +kernel, by decide +kernel⟩ rfl rfl ⟨Nat.le_of_ble_eq_true rfl, Nat.le_of_ble_eq_true rfl⟩), hts _ kw_1208⟩ hK hZ hN hA kd_M_quota_34) (wq_xout_ok hnt hlk) ?_
    refine wq_if_eq_ok (tgt := 44) h0 kd_M_quota_37 (by decide) ?_ ?_
    · exact hb_44
    refine wq_iconst_ok h0 kd_M_quota_40 (by decide +kernel) ?_
    refine wq_goto_ok (tgt := 45) h0 kd_M_quota_41 (by decide) ?_
    exact hb_45
  exact hb_0 _ _ _ _ _ (wq_sp_t hsp)
-- BorderDeskModel.quotaLeft(I)I
def kt_M_quotaLeft_38 (rt : Option wq_V → wq_W → Prop) (xt : Nat → wq_W → Prop) : wq_T := (wq_ireturn 0 0 rt)
def kt_M_quotaLeft_32 (rt : Option wq_V → wq_W → Prop) (xt : Nat → wq_W → Prop) : wq_T := (wq_aload 0 (wq_get 9 24 (wq_iload 1 (wq_iald (kt_M_quotaLeft_38 rt xt)))))
def kt_M_quotaLeft_18 (rt : Option wq_V → wq_W → Prop) (xt : Nat → wq_W → Prop) : wq_T := (wq_put 9 0 wq_isI (wq_aload 0 (wq_get 9 0 (wq_f1 (fun x => x ≤ 0) (kt_M_quotaLeft_32 rt xt) (wq_iconst (nI 0) (kt_M_quotaLeft_38 rt xt))))))
def kt_M_quotaLeft_17 (rt : Option wq_V → wq_W → Prop) (xt : Nat → wq_W → Prop) : wq_T := (wq_iconst (nI 1) (kt_M_quotaLeft_18 rt xt))
def kt_M_quotaLeft_0 (rt : Option wq_V → wq_W → Prop) (xt : Nat → wq_W → Prop) : wq_T := (wq_aload 0 (wq_iload 1 (wq_f1 (fun x => x < 0) (kt_M_quotaLeft_17 rt xt) (wq_iload 1 (wq_aload 0 (wq_get 9 18 (wq_f2 (fun x y => y ≤ x) (kt_M_quotaLeft_17 rt xt) (wq_iconst (nI 0) (kt_M_quotaLeft_18 rt xt)))))))))
def ks_M_quotaLeft : wq_S := wq_sp 2 (fun rt xt => kt_M_quotaLeft_0 rt xt)
set_option maxRecDepth 100000 in
set_option maxHeartbeats 4000000 in
theorem kv_M_quotaLeft {l : Launch} (hl : l.stackTraces = false) : wq_Vld l kz_cl ky_M_quotaLeft kw_T ({ frames := 0, cells := 0, slots := 0, locals := 0 }) wq_G0 ks_M_quotaLeft 0 0 := by
  refine wq_method (cc := kc_M_quotaLeft) (maxL := 2) (ret := (some .int)) (by decide) kw_1262 (fun _ _ => rfl) wq_sp_sz ?_
  intro p e s m args below meth c cs D ad as w rt xt hF hnt hsp
  obtain ⟨h0, hr, hts, hown, hlk, hnm, hml, hK, hZ, hN, hA⟩ := hF
  have hown : s.vm.findClass "BorderDeskModel" = some m.cls := hown
  obtain ⟨A, hAe⟩ : ∃ A, A = wq_A ad w s.heap.size := ⟨_, rfl⟩
  rw [← hAe] at hZ hA ⊢
  have hb_38 : wq_Snd p l e ({ frames := 0, cells := 0, slots := 0, locals := 0 } : Room) s m args below meth c 2 cs D kz_cl A (wq_G0 ad w) (wq_Q cs D kz_cl A (wq_G0 ad w) rt xt below s 0 0) 38 (kt_M_quotaLeft_38 rt xt) := by
    exact wq_ireturn_ok h0 hr hlk kd_M_quotaLeft_38
  have hb_32 : wq_Snd p l e ({ frames := 0, cells := 0, slots := 0, locals := 0 } : Room) s m args below meth c 2 cs D kz_cl A (wq_G0 ad w) (wq_Q cs D kz_cl A (wq_G0 ad w) rt xt below s 0 0) 32 (kt_M_quotaLeft_32 rt xt) := by
    refine wq_aload_n_ok h0 kd_M_quotaLeft_32 rfl ?_
    refine wq_get_ok (wq_getOK h0 hts ki_M hown hK (ci := 9) rfl 24 (Nat.le_of_ble_eq_true rfl) kw_1006 rfl) kd_M_quotaLeft_33 ?_
    refine wq_iload_n_ok h0 kd_M_quotaLeft_36 rfl ?_
    refine wq_iald_ok h0 hK kd_M_quotaLeft_37 ?_
    exact hb_38
  have hb_18 : wq_Snd p l e ({ frames := 0, cells := 0, slots := 0, locals := 0 } : Room) s m args below meth c 2 cs D kz_cl A (wq_G0 ad w) (wq_Q cs D kz_cl A (wq_G0 ad w) rt xt below s 0 0) 18 (kt_M_quotaLeft_18 rt xt) := by
    refine wq_put_ok (wq_putOK h0 hts ki_M ka_M kb_M kn_M hown hK (ci := 9) rfl 0 (Nat.le_of_ble_eq_true rfl) kw_982 rfl (Or.inl rfl) wq_okI) kd_M_quotaLeft_18 ?_
    refine wq_aload_n_ok h0 kd_M_quotaLeft_21 rfl ?_
    refine wq_get_ok (wq_getOK h0 hts ki_M hown hK (ci := 9) rfl 0 (Nat.le_of_ble_eq_true rfl) kw_982 rfl) kd_M_quotaLeft_22 ?_
    refine wq_if_le_ok (tgt := 32) h0 kd_M_quotaLeft_25 (by decide) ?_ ?_
    · exact hb_32
    refine wq_iconst_ok h0 kd_M_quotaLeft_28 (by decide +kernel) ?_
    refine wq_goto_ok (tgt := 38) h0 kd_M_quotaLeft_29 (by decide) ?_
    exact hb_38
  have hb_17 : wq_Snd p l e ({ frames := 0, cells := 0, slots := 0, locals := 0 } : Room) s m args below meth c 2 cs D kz_cl A (wq_G0 ad w) (wq_Q cs D kz_cl A (wq_G0 ad w) rt xt below s 0 0) 17 (kt_M_quotaLeft_17 rt xt) := by
    refine wq_iconst_ok h0 kd_M_quotaLeft_17 (by decide +kernel) ?_
    exact hb_18
  have hb_0 : wq_Snd p l e ({ frames := 0, cells := 0, slots := 0, locals := 0 } : Room) s m args below meth c 2 cs D kz_cl A (wq_G0 ad w) (wq_Q cs D kz_cl A (wq_G0 ad w) rt xt below s 0 0) 0 (kt_M_quotaLeft_0 rt xt) := by
    refine wq_aload_n_ok h0 kd_M_quotaLeft_0 rfl ?_
    refine wq_iload_n_ok h0 kd_M_quotaLeft_1 rfl ?_
    refine wq_if_lt_ok (tgt := 17) h0 kd_M_quotaLeft_2 (by decide) ?_ ?_
    · exact hb_17
    refine wq_iload_n_ok h0 kd_M_quotaLeft_5 rfl ?_
    refine wq_aload_n_ok h0 kd_M_quotaLeft_6 rfl ?_
    refine wq_get_ok (wq_getOK h0 hts ki_M hown hK (ci := 9) rfl 18 (Nat.le_of_ble_eq_true rfl) kw_1000 rfl) kd_M_quotaLeft_7 ?_
    refine wq_icmp_ge_ok (tgt := 17) h0 kd_M_quotaLeft_10 (by decide) ?_ ?_
    · exact hb_17
    refine wq_iconst_ok h0 kd_M_quotaLeft_13 (by decide +kernel) ?_
    refine wq_goto_ok (tgt := 18) h0 kd_M_quotaLeft_14 (by decide) ?_
    exact hb_18
  exact hb_0 _ _ _ _ _ (wq_sp_t hsp)
-- BorderDeskModel.reaches(II)Z
def kt_M_reaches_30 (rt : Option wq_V → wq_W → Prop) (xt : Nat → wq_W → Prop) (K : Nat → wq_T) : wq_T := (wq_iconst (nI 0) (wq_istore 3 (K 32)))
def kt_M_reaches_23 (rt : Option wq_V → wq_W → Prop) (xt : Nat → wq_W → Prop) (K : Nat → wq_T) : wq_T := (wq_zast (wq_iinc 3 (nI 1) (K 2)))
def kt_M_reaches_22 (rt : Option wq_V → wq_W → Prop) (xt : Nat → wq_W → Prop) (K : Nat → wq_T) : wq_T := (wq_iconst (nI 0) (kt_M_reaches_23 rt xt K))
def kh_M_reaches_2 (rt : Option wq_V → wq_W → Prop) (xt : Nat → wq_W → Prop) (K : Nat → wq_T) : wq_T := (wq_iload 3 (wq_iconst (nI 16) (wq_f2 (fun x y => y ≤ x) (kt_M_reaches_30 rt xt K) (wq_aload 0 (wq_get 9 33 (wq_iload 3 (wq_iload 3 (wq_iload 1 (wq_f2 (fun x y => x = y) (wq_iconst (nI 1) (kt_M_reaches_23 rt xt K)) (kt_M_reaches_22 rt xt K))))))))))
def kt_M_reaches_109 (rt : Option wq_V → wq_W → Prop) (xt : Nat → wq_W → Prop) (K : Nat → wq_T) : wq_T := (wq_aload 0 (wq_get 9 33 (wq_iload 2 (wq_zald (wq_zreturn 0 0 rt)))))
def kh_M_reaches_32 (rt : Option wq_V → wq_W → Prop) (xt : Nat → wq_W → Prop) (K : Nat → wq_T) : wq_T := (wq_iload 3 (wq_iconst (nI 16) (wq_f2 (fun x y => y ≤ x) (kt_M_reaches_109 rt xt K) (wq_iconst (nI 0) (wq_istore 4 (K 41))))))
def kt_M_reaches_103 (rt : Option wq_V → wq_W → Prop) (xt : Nat → wq_W → Prop) (K : Nat → wq_T) : wq_T := (wq_iinc 3 (nI 1) (K 32))
def kh_M_reaches_41 (rt : Option wq_V → wq_W → Prop) (xt : Nat → wq_W → Prop) (K : Nat → wq_T) : wq_T := (wq_iload 4 (wq_iconst (nI 16) (wq_f2 (fun x y => y ≤ x) (kt_M_reaches_103 rt xt K) (wq_iconst (nI 0) (wq_istore 5 (K 51))))))
def kt_M_reaches_97 (rt : Option wq_V → wq_W → Prop) (xt : Nat → wq_W → Prop) (K : Nat → wq_T) : wq_T := (wq_iinc 4 (nI 1) (K 41))
def kh_M_reaches_51 (rt : Option wq_V → wq_W → Prop) (xt : Nat → wq_W → Prop) (K : Nat → wq_T) : wq_T := (wq_iload 5 (wq_aload 0 (wq_get 9 27 (wq_iload 4 (wq_iald (wq_f2 (fun x y => y ≤ x) (kt_M_reaches_97 rt xt K) (wq_aload 0 (wq_get 9 33 (wq_iload 4 (wq_zald (wq_f1 (fun x => x = 0) (kt_M_reaches_97 rt xt K) (wq_aload 0 (wq_get 9 33 (wq_aload 0 (wq_get 9 28 (wq_iconst (nI 5) (wq_iload 4 (wq_i2 (fun x y => x * y) (wq_iload 5 (wq_i2 (fun x y => x + y) (wq_iald (wq_iconst (nI 1) (wq_zast (wq_iinc 5 (nI 1) (K 51)))))))))))))))))))))))))
def kt_M_reaches_0 (rt : Option wq_V → wq_W → Prop) (xt : Nat → wq_W → Prop) (K : Nat → wq_T) : wq_T := (wq_iconst (nI 0) (wq_istore 3 (K 2)))
def ku_M_reaches (rt : Option wq_V → wq_W → Prop) (xt : Nat → wq_W → Prop) : Nat → Nat → wq_T
  | 0, _ => fun _ _ _ _ _ => False
  | n + 1, pc => cond (Nat.beq pc 2) (kh_M_reaches_2 rt xt (ku_M_reaches rt xt n)) (cond (Nat.beq pc 32) (kh_M_reaches_32 rt xt (ku_M_reaches rt xt n)) (cond (Nat.beq pc 41) (kh_M_reaches_41 rt xt (ku_M_reaches rt xt n)) (cond (Nat.beq pc 51) (kh_M_reaches_51 rt xt (ku_M_reaches rt xt n)) (fun _ _ _ _ _ => False))))
def ks_M_reaches : wq_S := wq_sp 6 (fun rt xt => kt_M_reaches_0 rt xt (ku_M_reaches rt xt 700))
set_option maxRecDepth 100000 in
set_option maxHeartbeats 4000000 in
theorem kv_M_reaches {l : Launch} (hl : l.stackTraces = false) : wq_Vld l kz_cl ky_M_reaches kw_T ({ frames := 0, cells := 0, slots := 0, locals := 0 }) wq_G0 ks_M_reaches 0 0 := by
  refine wq_method (cc := kc_M_reaches) (maxL := 6) (ret := (some .boolean)) (by decide) kw_1271 (fun _ _ => rfl) wq_sp_sz ?_
  intro p e s m args below meth c cs D ad as w rt xt hF hnt hsp
  obtain ⟨h0, hr, hts, hown, hlk, hnm, hml, hK, hZ, hN, hA⟩ := hF
  have hown : s.vm.findClass "BorderDeskModel" = some m.cls := hown
  obtain ⟨A, hAe⟩ : ∃ A, A = wq_A ad w s.heap.size := ⟨_, rfl⟩
  rw [← hAe] at hZ hA ⊢
  have hall : ∀ K : Nat → wq_T, (∀ pc, pc ∈ [2, 32, 41, 51] → wq_Snd p l e ({ frames := 0, cells := 0, slots := 0, locals := 0 } : Room) s m args below meth c 6 cs D kz_cl A (wq_G0 ad w) (wq_Q cs D kz_cl A (wq_G0 ad w) rt xt below s 0 0) pc (K pc)) → (∀ pc, pc ∈ [2, 32, 41, 51] → wq_Snd p l e ({ frames := 0, cells := 0, slots := 0, locals := 0 } : Room) s m args below meth c 6 cs D kz_cl A (wq_G0 ad w) (wq_Q cs D kz_cl A (wq_G0 ad w) rt xt below s 0 0) pc (cond (Nat.beq pc 2) (kh_M_reaches_2 rt xt K) (cond (Nat.beq pc 32) (kh_M_reaches_32 rt xt K) (cond (Nat.beq pc 41) (kh_M_reaches_41 rt xt K) (cond (Nat.beq pc 51) (kh_M_reaches_51 rt xt K) (fun _ _ _ _ _ => False)))))) ∧ wq_Snd p l e ({ frames := 0, cells := 0, slots := 0, locals := 0 } : Room) s m args below meth c 6 cs D kz_cl A (wq_G0 ad w) (wq_Q cs D kz_cl A (wq_G0 ad w) rt xt below s 0 0) 0 (kt_M_reaches_0 rt xt K) := by
    intro K hKc
    have hb_30 : wq_Snd p l e ({ frames := 0, cells := 0, slots := 0, locals := 0 } : Room) s m args below meth c 6 cs D kz_cl A (wq_G0 ad w) (wq_Q cs D kz_cl A (wq_G0 ad w) rt xt below s 0 0) 30 (kt_M_reaches_30 rt xt K) := by
      refine wq_iconst_ok h0 kd_M_reaches_30 (by decide +kernel) ?_
      refine wq_istore_n_ok h0 kd_M_reaches_31 rfl (Nat.le_of_ble_eq_true rfl) ?_
      exact hKc 32 (by decide)
    have hb_23 : wq_Snd p l e ({ frames := 0, cells := 0, slots := 0, locals := 0 } : Room) s m args below meth c 6 cs D kz_cl A (wq_G0 ad w) (wq_Q cs D kz_cl A (wq_G0 ad w) rt xt below s 0 0) 23 (kt_M_reaches_23 rt xt K) := by
      refine wq_zast_ok h0 hK kd_M_reaches_23 ?_
      refine wq_iinc_ok h0 kd_M_reaches_24 (by decide +kernel) (Nat.le_of_ble_eq_true rfl) ?_
      refine wq_goto_ok (tgt := 2) h0 kd_M_reaches_27 (by decide) ?_
      exact hKc 2 (by decide)
    have hb_22 : wq_Snd p l e ({ frames := 0, cells := 0, slots := 0, locals := 0 } : Room) s m args below meth c 6 cs D kz_cl A (wq_G0 ad w) (wq_Q cs D kz_cl A (wq_G0 ad w) rt xt below s 0 0) 22 (kt_M_reaches_22 rt xt K) := by
      refine wq_iconst_ok h0 kd_M_reaches_22 (by decide +kernel) ?_
      exact hb_23
    have hb_2 : wq_Snd p l e ({ frames := 0, cells := 0, slots := 0, locals := 0 } : Room) s m args below meth c 6 cs D kz_cl A (wq_G0 ad w) (wq_Q cs D kz_cl A (wq_G0 ad w) rt xt below s 0 0) 2 (kh_M_reaches_2 rt xt K) := by
      refine wq_iload_n_ok h0 kd_M_reaches_2 rfl ?_
      refine wq_bipush_ok h0 kd_M_reaches_3 (by decide +kernel) ?_
      refine wq_icmp_ge_ok (tgt := 30) h0 kd_M_reaches_5 (by decide) ?_ ?_
      · exact hb_30
      refine wq_aload_n_ok h0 kd_M_reaches_8 rfl ?_
      refine wq_get_ok (wq_getOK h0 hts ki_M hown hK (ci := 9) rfl 33 (Nat.le_of_ble_eq_true rfl) kw_1015 rfl) kd_M_reaches_9 ?_
      refine wq_iload_n_ok h0 kd_M_reaches_12 rfl ?_
      refine wq_iload_n_ok h0 kd_M_reaches_13 rfl ?_
      refine wq_iload_n_ok h0 kd_M_reaches_14 rfl ?_
      refine wq_icmp_ne_ok (tgt := 22) h0 kd_M_reaches_15 (by decide) ?_ ?_
      · exact hb_22
      refine wq_iconst_ok h0 kd_M_reaches_18 (by decide +kernel) ?_
      refine wq_goto_ok (tgt := 23) h0 kd_M_reaches_19 (by decide) ?_
      exact hb_23
    have hb_109 : wq_Snd p l e ({ frames := 0, cells := 0, slots := 0, locals := 0 } : Room) s m args below meth c 6 cs D kz_cl A (wq_G0 ad w) (wq_Q cs D kz_cl A (wq_G0 ad w) rt xt below s 0 0) 109 (kt_M_reaches_109 rt xt K) := by
      refine wq_aload_n_ok h0 kd_M_reaches_109 rfl ?_
      refine wq_get_ok (wq_getOK h0 hts ki_M hown hK (ci := 9) rfl 33 (Nat.le_of_ble_eq_true rfl) kw_1015 rfl) kd_M_reaches_110 ?_
      refine wq_iload_n_ok h0 kd_M_reaches_113 rfl ?_
      refine wq_zald_ok h0 hK kd_M_reaches_114 ?_
      exact wq_zreturn_ok h0 hr hlk kd_M_reaches_115
    have hb_32 : wq_Snd p l e ({ frames := 0, cells := 0, slots := 0, locals := 0 } : Room) s m args below meth c 6 cs D kz_cl A (wq_G0 ad w) (wq_Q cs D kz_cl A (wq_G0 ad w) rt xt below s 0 0) 32 (kh_M_reaches_32 rt xt K) := by
      refine wq_iload_n_ok h0 kd_M_reaches_32 rfl ?_
      refine wq_bipush_ok h0 kd_M_reaches_33 (by decide +kernel) ?_
      refine wq_icmp_ge_ok (tgt := 109) h0 kd_M_reaches_35 (by decide) ?_ ?_
      · exact hb_109
      refine wq_iconst_ok h0 kd_M_reaches_38 (by decide +kernel) ?_
      refine wq_istore_ok h0 kd_M_reaches_39 (Nat.le_of_ble_eq_true rfl) ?_
      exact hKc 41 (by decide)
    have hb_103 : wq_Snd p l e ({ frames := 0, cells := 0, slots := 0, locals := 0 } : Room) s m args below meth c 6 cs D kz_cl A (wq_G0 ad w) (wq_Q cs D kz_cl A (wq_G0 ad w) rt xt below s 0 0) 103 (kt_M_reaches_103 rt xt K) := by
      refine wq_iinc_ok h0 kd_M_reaches_103 (by decide +kernel) (Nat.le_of_ble_eq_true rfl) ?_
      refine wq_goto_ok (tgt := 32) h0 kd_M_reaches_106 (by decide) ?_
      exact hKc 32 (by decide)
    have hb_41 : wq_Snd p l e ({ frames := 0, cells := 0, slots := 0, locals := 0 } : Room) s m args below meth c 6 cs D kz_cl A (wq_G0 ad w) (wq_Q cs D kz_cl A (wq_G0 ad w) rt xt below s 0 0) 41 (kh_M_reaches_41 rt xt K) := by
      refine wq_iload_ok h0 kd_M_reaches_41 ?_
      refine wq_bipush_ok h0 kd_M_reaches_43 (by decide +kernel) ?_
      refine wq_icmp_ge_ok (tgt := 103) h0 kd_M_reaches_45 (by decide) ?_ ?_
      · exact hb_103
      refine wq_iconst_ok h0 kd_M_reaches_48 (by decide +kernel) ?_
      refine wq_istore_ok h0 kd_M_reaches_49 (Nat.le_of_ble_eq_true rfl) ?_
      exact hKc 51 (by decide)
    have hb_97 : wq_Snd p l e ({ frames := 0, cells := 0, slots := 0, locals := 0 } : Room) s m args below meth c 6 cs D kz_cl A (wq_G0 ad w) (wq_Q cs D kz_cl A (wq_G0 ad w) rt xt below s 0 0) 97 (kt_M_reaches_97 rt xt K) := by
      refine wq_iinc_ok h0 kd_M_reaches_97 (by decide +kernel) (Nat.le_of_ble_eq_true rfl) ?_
      refine wq_goto_ok (tgt := 41) h0 kd_M_reaches_100 (by decide) ?_
      exact hKc 41 (by decide)
    have hb_51 : wq_Snd p l e ({ frames := 0, cells := 0, slots := 0, locals := 0 } : Room) s m args below meth c 6 cs D kz_cl A (wq_G0 ad w) (wq_Q cs D kz_cl A (wq_G0 ad w) rt xt below s 0 0) 51 (kh_M_reaches_51 rt xt K) := by
      refine wq_iload_ok h0 kd_M_reaches_51 ?_
      refine wq_aload_n_ok h0 kd_M_reaches_53 rfl ?_
      refine wq_get_ok (wq_getOK h0 hts ki_M hown hK (ci := 9) rfl 27 (Nat.le_of_ble_eq_true rfl) kw_1009 rfl) kd_M_reaches_54 ?_
      refine wq_iload_ok h0 kd_M_reaches_57 ?_
      refine wq_iald_ok h0 hK kd_M_reaches_59 ?_
      refine wq_icmp_ge_ok (tgt := 97) h0 kd_M_reaches_60 (by decide) ?_ ?_
      · exact hb_97
      refine wq_aload_n_ok h0 kd_M_reaches_63 rfl ?_
      refine wq_get_ok (wq_getOK h0 hts ki_M hown hK (ci := 9) rfl 33 (Nat.le_of_ble_eq_true rfl) kw_1015 rfl) kd_M_reaches_64 ?_
      refine wq_iload_ok h0 kd_M_reaches_67 ?_
      refine wq_zald_ok h0 hK kd_M_reaches_69 ?_
      refine wq_if_eq_ok (tgt := 97) h0 kd_M_reaches_70 (by decide) ?_ ?_
      · exact hb_97
      refine wq_aload_n_ok h0 kd_M_reaches_73 rfl ?_
      refine wq_get_ok (wq_getOK h0 hts ki_M hown hK (ci := 9) rfl 33 (Nat.le_of_ble_eq_true rfl) kw_1015 rfl) kd_M_reaches_74 ?_
      refine wq_aload_n_ok h0 kd_M_reaches_77 rfl ?_
      refine wq_get_ok (wq_getOK h0 hts ki_M hown hK (ci := 9) rfl 28 (Nat.le_of_ble_eq_true rfl) kw_1010 rfl) kd_M_reaches_78 ?_
      refine wq_iconst_ok h0 kd_M_reaches_81 (by decide +kernel) ?_
      refine wq_iload_ok h0 kd_M_reaches_82 ?_
      refine wq_imul_ok h0 kd_M_reaches_84 ?_
      refine wq_iload_ok h0 kd_M_reaches_85 ?_
      refine wq_iadd_ok h0 kd_M_reaches_87 ?_
      refine wq_iald_ok h0 hK kd_M_reaches_88 ?_
      refine wq_iconst_ok h0 kd_M_reaches_89 (by decide +kernel) ?_
      refine wq_zast_ok h0 hK kd_M_reaches_90 ?_
      refine wq_iinc_ok h0 kd_M_reaches_91 (by decide +kernel) (Nat.le_of_ble_eq_true rfl) ?_
      refine wq_goto_ok (tgt := 51) h0 kd_M_reaches_94 (by decide) ?_
      exact hKc 51 (by decide)
    have hb_0 : wq_Snd p l e ({ frames := 0, cells := 0, slots := 0, locals := 0 } : Room) s m args below meth c 6 cs D kz_cl A (wq_G0 ad w) (wq_Q cs D kz_cl A (wq_G0 ad w) rt xt below s 0 0) 0 (kt_M_reaches_0 rt xt K) := by
      refine wq_iconst_ok h0 kd_M_reaches_0 (by decide +kernel) ?_
      refine wq_istore_n_ok h0 kd_M_reaches_1 rfl (Nat.le_of_ble_eq_true rfl) ?_
      exact hKc 2 (by decide)
    refine ⟨?_, hb_0⟩
    exact List.forall_mem_cons.mpr ⟨hb_2, List.forall_mem_cons.mpr ⟨hb_32, List.forall_mem_cons.mpr ⟨hb_41, List.forall_mem_cons.mpr ⟨hb_51, fun _ h => absurd h List.not_mem_nil⟩⟩⟩⟩
  have hun : ∀ (n pc : Nat), pc ∈ [2, 32, 41, 51] → wq_Snd p l e ({ frames := 0, cells := 0, slots := 0, locals := 0 } : Room) s m args below meth c 6 cs D kz_cl A (wq_G0 ad w) (wq_Q cs D kz_cl A (wq_G0 ad w) rt xt below s 0 0) pc (ku_M_reaches rt xt n pc) := by
    intro n
    induction n with
    | zero => intro pc _ L S w9 n1 n2 h; exact h.elim
    | succ n ih => intro pc hpc; exact (hall (ku_M_reaches rt xt n) ih).1 pc hpc
  exact (hall (ku_M_reaches rt xt 700) (hun 700)).2 _ _ _ _ _ (wq_sp_t hsp)
-- BorderDeskModel.part(IIII)I
def kt_M_part_94 (rt : Option wq_V → wq_W → Prop) (xt : Nat → wq_W → Prop) : wq_T := (wq_iconst (nI 5) (wq_iload 1 (wq_i2 (fun x y => x * y) (wq_aload 0 (wq_get 9 27 (wq_iload 1 (wq_iald (wq_i2 (fun x y => x + y) (wq_istore 6 (wq_aload 0 (wq_get 9 28 (wq_iload 6 (wq_iload 2 (wq_iast (wq_aload 0 (wq_get 9 29 (wq_iload 6 (wq_iload 3 (wq_iast (wq_aload 0 (wq_get 9 30 (wq_iload 6 (wq_iload 4 (wq_iast (wq_aload 0 (wq_get 9 27 (wq_iload 1 (wq_dup2 (wq_iald (wq_iconst (nI 1) (wq_i2 (fun x y => x + y) (wq_iast (wq_aload 0 (wq_get 9 27 (wq_iload 1 (wq_iald (wq_ireturn 0 0 rt)))))))))))))))))))))))))))))))))))))
def kt_M_part_82 (rt : Option wq_V → wq_W → Prop) (xt : Nat → wq_W → Prop) : wq_T := (wq_put 9 0 wq_isI (wq_aload 0 (wq_get 9 0 (wq_f1 (fun x => x ≤ 0) (kt_M_part_94 rt xt) (wq_iconst (nI 0) (wq_ireturn 0 0 rt))))))
def kt_M_part_63 (rt : Option wq_V → wq_W → Prop) (xt : Nat → wq_W → Prop) : wq_T := (wq_iconst (nI 1) (kt_M_part_82 rt xt))
def kt_M_part_81 (rt : Option wq_V → wq_W → Prop) (xt : Nat → wq_W → Prop) : wq_T := (wq_iconst (nI 0) (kt_M_part_82 rt xt))
def kt_M_part_67 (rt : Option wq_V → wq_W → Prop) (xt : Nat → wq_W → Prop) : wq_T := (wq_aload 0 (wq_get 9 27 (wq_iload 1 (wq_iald (wq_iconst (nI 5) (wq_f2 (fun x y => x = y) (wq_iconst (nI 2) (kt_M_part_82 rt xt)) (kt_M_part_81 rt xt)))))))
def kt_M_part_46 (rt : Option wq_V → wq_W → Prop) (xt : Nat → wq_W → Prop) : wq_T := (wq_istore 5 (wq_aload 0 (wq_iload 5 (wq_f1 (fun x => x = 0) (kt_M_part_63 rt xt) (wq_aload 0 (wq_iload 2 (wq_iload 1 (wq_call (wq_rv 9 ks_M_reaches) 3 0 0 0 0 (wq_xout 0 0 xt) (wq_f1 (fun x => x = 0) (kt_M_part_67 rt xt) (kt_M_part_63 rt xt))))))))))
def kt_M_part_45 (rt : Option wq_V → wq_W → Prop) (xt : Nat → wq_W → Prop) : wq_T := (wq_iconst (nI 0) (kt_M_part_46 rt xt))
def kt_M_part_0 (rt : Option wq_V → wq_W → Prop) (xt : Nat → wq_W → Prop) : wq_T := (wq_iload 1 (wq_iconst (nI 0) (wq_iconst (nI 15) (wq_call ks_M_within 3 0 0 0 0 (wq_xout 0 0 xt) (wq_f1 (fun x => x = 0) (kt_M_part_45 rt xt) (wq_iload 2 (wq_iconst (nI 0) (wq_iconst (nI 15) (wq_call ks_M_within 3 0 0 0 0 (wq_xout 0 0 xt) (wq_f1 (fun x => x = 0) (kt_M_part_45 rt xt) (wq_iload 3 (wq_iconst (nI 0) (wq_iconst (1000000) (wq_call ks_M_within 3 0 0 0 0 (wq_xout 0 0 xt) (wq_f1 (fun x => x = 0) (kt_M_part_45 rt xt) (wq_iload 4 (wq_iconst (nI 0) (wq_iconst (nI 7) (wq_call ks_M_within 3 0 0 0 0 (wq_xout 0 0 xt) (wq_f1 (fun x => x = 0) (kt_M_part_45 rt xt) (wq_iconst (nI 1) (kt_M_part_46 rt xt))))))))))))))))))))))
def ks_M_part : wq_S := wq_sp 7 (fun rt xt => kt_M_part_0 rt xt)
set_option maxRecDepth 100000 in
set_option maxHeartbeats 4000000 in
theorem kv_M_part {l : Launch} (hl : l.stackTraces = false) : wq_Vld l kz_cl ky_M_part kw_T ({ frames := 1, cells := 0, slots := 0, locals := 25 }) wq_G0 ks_M_part 0 0 := by
  refine wq_method (cc := kc_M_part) (maxL := 7) (ret := (some .int)) (by decide) kw_1266 (fun _ _ => rfl) wq_sp_sz ?_
  intro p e s m args below meth c cs D ad as w rt xt hF hnt hsp
  obtain ⟨h0, hr, hts, hown, hlk, hnm, hml, hK, hZ, hN, hA⟩ := hF
  have hown : s.vm.findClass "BorderDeskModel" = some m.cls := hown
  obtain ⟨A, hAe⟩ : ∃ A, A = wq_A ad w s.heap.size := ⟨_, rfl⟩
  rw [← hAe] at hZ hA ⊢
  have hb_94 : wq_Snd p l e ({ frames := 1, cells := 0, slots := 0, locals := 25 } : Room) s m args below meth c 7 cs D kz_cl A (wq_G0 ad w) (wq_Q cs D kz_cl A (wq_G0 ad w) rt xt below s 0 0) 94 (kt_M_part_94 rt xt) := by
    refine wq_iconst_ok h0 kd_M_part_94 (by decide +kernel) ?_
    refine wq_iload_n_ok h0 kd_M_part_95 rfl ?_
    refine wq_imul_ok h0 kd_M_part_96 ?_
    refine wq_aload_n_ok h0 kd_M_part_97 rfl ?_
    refine wq_get_ok (wq_getOK h0 hts ki_M hown hK (ci := 9) rfl 27 (Nat.le_of_ble_eq_true rfl) kw_1009 rfl) kd_M_part_98 ?_
    refine wq_iload_n_ok h0 kd_M_part_101 rfl ?_
    refine wq_iald_ok h0 hK kd_M_part_102 ?_
    refine wq_iadd_ok h0 kd_M_part_103 ?_
    refine wq_istore_ok h0 kd_M_part_104 (Nat.le_of_ble_eq_true rfl) ?_
    refine wq_aload_n_ok h0 kd_M_part_106 rfl ?_
    refine wq_get_ok (wq_getOK h0 hts ki_M hown hK (ci := 9) rfl 28 (Nat.le_of_ble_eq_true rfl) kw_1010 rfl) kd_M_part_107 ?_
    refine wq_iload_ok h0 kd_M_part_110 ?_
    refine wq_iload_n_ok h0 kd_M_part_112 rfl ?_
    refine wq_iast_ok h0 hK kd_M_part_113 ?_
    refine wq_aload_n_ok h0 kd_M_part_114 rfl ?_
    refine wq_get_ok (wq_getOK h0 hts ki_M hown hK (ci := 9) rfl 29 (Nat.le_of_ble_eq_true rfl) kw_1011 rfl) kd_M_part_115 ?_
    refine wq_iload_ok h0 kd_M_part_118 ?_
    refine wq_iload_n_ok h0 kd_M_part_120 rfl ?_
    refine wq_iast_ok h0 hK kd_M_part_121 ?_
    refine wq_aload_n_ok h0 kd_M_part_122 rfl ?_
    refine wq_get_ok (wq_getOK h0 hts ki_M hown hK (ci := 9) rfl 30 (Nat.le_of_ble_eq_true rfl) kw_1012 rfl) kd_M_part_123 ?_
    refine wq_iload_ok h0 kd_M_part_126 ?_
    refine wq_iload_ok h0 kd_M_part_128 ?_
    refine wq_iast_ok h0 hK kd_M_part_130 ?_
    refine wq_aload_n_ok h0 kd_M_part_131 rfl ?_
    refine wq_get_ok (wq_getOK h0 hts ki_M hown hK (ci := 9) rfl 27 (Nat.le_of_ble_eq_true rfl) kw_1009 rfl) kd_M_part_132 ?_
    refine wq_iload_n_ok h0 kd_M_part_135 rfl ?_
    refine wq_dup2_ok h0 kd_M_part_136 ?_
    refine wq_iald_ok h0 hK kd_M_part_137 ?_
    refine wq_iconst_ok h0 kd_M_part_138 (by decide +kernel) ?_
    refine wq_iadd_ok h0 kd_M_part_139 ?_
    refine wq_iast_ok h0 hK kd_M_part_140 ?_
    refine wq_aload_n_ok h0 kd_M_part_141 rfl ?_
    refine wq_get_ok (wq_getOK h0 hts ki_M hown hK (ci := 9) rfl 27 (Nat.le_of_ble_eq_true rfl) kw_1009 rfl) kd_M_part_142 ?_
    refine wq_iload_n_ok h0 kd_M_part_145 rfl ?_
    refine wq_iald_ok h0 hK kd_M_part_146 ?_
    exact wq_ireturn_ok h0 hr hlk kd_M_part_147
  have hb_82 : wq_Snd p l e ({ frames := 1, cells := 0, slots := 0, locals := 25 } : Room) s m args below meth c 7 cs D kz_cl A (wq_G0 ad w) (wq_Q cs D kz_cl A (wq_G0 ad w) rt xt below s 0 0) 82 (kt_M_part_82 rt xt) := by
    refine wq_put_ok (wq_putOK h0 hts ki_M ka_M kb_M kn_M hown hK (ci := 9) rfl 0 (Nat.le_of_ble_eq_true rfl) kw_982 rfl (Or.inl rfl) wq_okI) kd_M_part_82 ?_
    refine wq_aload_n_ok h0 kd_M_part_85 rfl ?_
    refine wq_get_ok (wq_getOK h0 hts ki_M hown hK (ci := 9) rfl 0 (Nat.le_of_ble_eq_true rfl) kw_982 rfl) kd_M_part_86 ?_
    refine wq_if_le_ok (tgt := 94) h0 kd_M_part_89 (by decide) ?_ ?_
    · exact hb_94
    refine wq_iconst_ok h0 kd_M_part_92 (by decide +kernel) ?_
    exact wq_ireturn_ok h0 hr hlk kd_M_part_93
  have hb_63 : wq_Snd p l e ({ frames := 1, cells := 0, slots := 0, locals := 25 } : Room) s m args below meth c 7 cs D kz_cl A (wq_G0 ad w) (wq_Q cs D kz_cl A (wq_G0 ad w) rt xt below s 0 0) 63 (kt_M_part_63 rt xt) := by
    refine wq_iconst_ok h0 kd_M_part_63 (by decide +kernel) ?_
    refine wq_goto_ok (tgt := 82) h0 kd_M_part_64 (by decide) ?_
    exact hb_82
  have hb_81 : wq_Snd p l e ({ frames := 1, cells := 0, slots := 0, locals := 25 } : Room) s m args below meth c 7 cs D kz_cl A (wq_G0 ad w) (wq_Q cs D kz_cl A (wq_G0 ad w) rt xt below s 0 0) 81 (kt_M_part_81 rt xt) := by
    refine wq_iconst_ok h0 kd_M_part_81 (by decide +kernel) ?_
    exact hb_82
  have hb_67 : wq_Snd p l e ({ frames := 1, cells := 0, slots := 0, locals := 25 } : Room) s m args below meth c 7 cs D kz_cl A (wq_G0 ad w) (wq_Q cs D kz_cl A (wq_G0 ad w) rt xt below s 0 0) 67 (kt_M_part_67 rt xt) := by
    refine wq_aload_n_ok h0 kd_M_part_67 rfl ?_
    refine wq_get_ok (wq_getOK h0 hts ki_M hown hK (ci := 9) rfl 27 (Nat.le_of_ble_eq_true rfl) kw_1009 rfl) kd_M_part_68 ?_
    refine wq_iload_n_ok h0 kd_M_part_71 rfl ?_
    refine wq_iald_ok h0 hK kd_M_part_72 ?_
    refine wq_iconst_ok h0 kd_M_part_73 (by decide +kernel) ?_
    refine wq_icmp_ne_ok (tgt := 81) h0 kd_M_part_74 (by decide) ?_ ?_
    · exact hb_81
    refine wq_iconst_ok h0 kd_M_part_77 (by decide +kernel) ?_
    refine wq_goto_ok (tgt := 82) h0 kd_M_part_78 (by decide) ?_
    exact hb_82
  have hb_46 : wq_Snd p l e ({ frames := 1, cells := 0, slots := 0, locals := 25 } : Room) s m args below meth c 7 cs D kz_cl A (wq_G0 ad w) (wq_Q cs D kz_cl A (wq_G0 ad w) rt xt below s 0 0) 46 (kt_M_part_46 rt xt) := by
    refine wq_istore_ok h0 kd_M_part_46 (Nat.le_of_ble_eq_true rfl) ?_
    refine wq_aload_n_ok h0 kd_M_part_48 rfl ?_
    refine wq_iload_ok h0 kd_M_part_49 ?_
    refine wq_if_eq_ok (tgt := 63) h0 kd_M_part_51 (by decide) ?_ ?_
    · exact hb_63
    refine wq_aload_n_ok h0 kd_M_part_54 rfl ?_
    refine wq_iload_n_ok h0 kd_M_part_55 rfl ?_
    refine wq_iload_n_ok h0 kd_M_part_56 rfl ?_
    refine wq_call_ok hA (wq_runV (ci := 9) ⟨h0.1, h0.2, hml, hown, hts⟩ (kv_M_reaches hl) ⟨(wq_cB hts kw_G kw_1271 kw_10 kw_1268 ⟨by decide +kernel, by decide +kernel, by decide +kernel⟩ rfl rfl ⟨Nat.le_of_ble_eq_true rfl, Nat.le_of_ble_eq_true rfl⟩), hts _ kw_1270, hts _ kw_s37⟩ rfl rfl hK hZ hN hA kd_M_part_57) (wq_xout_ok hnt hlk) ?_
    refine wq_if_eq_ok (tgt := 67) h0 kd_M_part_60 (by decide) ?_ ?_
    · exact hb_67
    exact hb_63
  have hb_45 : wq_Snd p l e ({ frames := 1, cells := 0, slots := 0, locals := 25 } : Room) s m args below meth c 7 cs D kz_cl A (wq_G0 ad w) (wq_Q cs D kz_cl A (wq_G0 ad w) rt xt below s 0 0) 45 (kt_M_part_45 rt xt) := by
    refine wq_iconst_ok h0 kd_M_part_45 (by decide +kernel) ?_
    exact hb_46
  have hb_0 : wq_Snd p l e ({ frames := 1, cells := 0, slots := 0, locals := 25 } : Room) s m args below meth c 7 cs D kz_cl A (wq_G0 ad w) (wq_Q cs D kz_cl A (wq_G0 ad w) rt xt below s 0 0) 0 (kt_M_part_0 rt xt) := by
    refine wq_iload_n_ok h0 kd_M_part_0 rfl ?_
    refine wq_iconst_ok h0 kd_M_part_1 (by decide +kernel) ?_
    refine wq_bipush_ok h0 kd_M_part_2 (by decide +kernel) ?_
    refine wq_call_ok hA (wq_runS ⟨h0.1, h0.2, hml, hown, hts⟩ (kv_M_within hl) ⟨(wq_cB hts kw_G kw_1209 kw_10 kw_1207 ⟨by decide +kernel, by decide +kernel, by decide +kernel⟩ rfl rfl ⟨Nat.le_of_ble_eq_true rfl, Nat.le_of_ble_eq_true rfl⟩), hts _ kw_1208⟩ hK hZ hN hA kd_M_part_4) (wq_xout_ok hnt hlk) ?_
    refine wq_if_eq_ok (tgt := 45) h0 kd_M_part_7 (by decide) ?_ ?_
    · exact hb_45
    refine wq_iload_n_ok h0 kd_M_part_10 rfl ?_
    refine wq_iconst_ok h0 kd_M_part_11 (by decide +kernel) ?_
    refine wq_bipush_ok h0 kd_M_part_12 (by decide +kernel) ?_
    refine wq_call_ok hA (wq_runS ⟨h0.1, h0.2, hml, hown, hts⟩ (kv_M_within hl) ⟨(wq_cB hts kw_G kw_1209 kw_10 kw_1207 ⟨by decide +kernel, by decide +kernel, by decide +kernel⟩ rfl rfl ⟨Nat.le_of_ble_eq_true rfl, Nat.le_of_ble_eq_true rfl⟩), hts _ kw_1208⟩ hK hZ hN hA kd_M_part_14) (wq_xout_ok hnt hlk) ?_
    refine wq_if_eq_ok (tgt := 45) h0 kd_M_part_17 (by decide) ?_ ?_
    · exact hb_45
    refine wq_iload_n_ok h0 kd_M_part_20 rfl ?_
    refine wq_iconst_ok h0 kd_M_part_21 (by decide +kernel) ?_
    refine wq_ldc_ok (v := 1000000) h0 hown (hts _ kw_1267) kd_M_part_22 ?_
    refine wq_call_ok hA (wq_runS ⟨h0.1, h0.2, hml, hown, hts⟩ (kv_M_within hl) ⟨(wq_cB hts kw_G kw_1209 kw_10 kw_1207 ⟨by decide +kernel, by decide +kernel, by decide +kernel⟩ rfl rfl ⟨Nat.le_of_ble_eq_true rfl, Nat.le_of_ble_eq_true rfl⟩), hts _ kw_1208⟩ hK hZ hN hA kd_M_part_24) (wq_xout_ok hnt hlk) ?_
    refine wq_if_eq_ok (tgt := 45) h0 kd_M_part_27 (by decide) ?_ ?_
    · exact hb_45
    refine wq_iload_ok h0 kd_M_part_30 ?_
    refine wq_iconst_ok h0 kd_M_part_32 (by decide +kernel) ?_
    refine wq_bipush_ok h0 kd_M_part_33 (by decide +kernel) ?_
    refine wq_call_ok hA (wq_runS ⟨h0.1, h0.2, hml, hown, hts⟩ (kv_M_within hl) ⟨(wq_cB hts kw_G kw_1209 kw_10 kw_1207 ⟨by decide +kernel, by decide +kernel, by decide +kernel⟩ rfl rfl ⟨Nat.le_of_ble_eq_true rfl, Nat.le_of_ble_eq_true rfl⟩), hts _ kw_1208⟩ hK hZ hN hA kd_M_part_35) (wq_xout_ok hnt hlk) ?_
    refine wq_if_eq_ok (tgt := 45) h0 kd_M_part_38 (by decide) ?_ ?_
    · exact hb_45
    refine wq_iconst_ok h0 kd_M_part_41 (by decide +kernel) ?_
    refine wq_goto_ok (tgt := 46) h0 kd_M_part_42 (by decide) ?_
    exact hb_46
  exact hb_0 _ _ _ _ _ (wq_sp_t hsp)
-- BorderDeskModel.zone(II)V
def kt_M_zone_43 (rt : Option wq_V → wq_W → Prop) (xt : Nat → wq_W → Prop) : wq_T := (wq_vreturn 0 0 rt)
def kt_M_zone_26 (rt : Option wq_V → wq_W → Prop) (xt : Nat → wq_W → Prop) : wq_T := (wq_put 9 0 wq_isI (wq_aload 0 (wq_get 9 0 (wq_f1 (fun x => x = 0) (wq_aload 0 (wq_get 9 31 (wq_iload 1 (wq_iload 2 (wq_iast (kt_M_zone_43 rt xt)))))) (kt_M_zone_43 rt xt)))))
def kt_M_zone_25 (rt : Option wq_V → wq_W → Prop) (xt : Nat → wq_W → Prop) : wq_T := (wq_iconst (nI 1) (kt_M_zone_26 rt xt))
def kt_M_zone_0 (rt : Option wq_V → wq_W → Prop) (xt : Nat → wq_W → Prop) : wq_T := (wq_aload 0 (wq_iload 1 (wq_iconst (nI 0) (wq_iconst (nI 3) (wq_call ks_M_within 3 0 0 0 0 (wq_xout 0 0 xt) (wq_f1 (fun x => x = 0) (kt_M_zone_25 rt xt) (wq_iload 2 (wq_iconst (nI 0) (wq_iconst (nI 255) (wq_call ks_M_within 3 0 0 0 0 (wq_xout 0 0 xt) (wq_f1 (fun x => x = 0) (kt_M_zone_25 rt xt) (wq_iconst (nI 0) (kt_M_zone_26 rt xt)))))))))))))
def ks_M_zone : wq_S := wq_sp 3 (fun rt xt => kt_M_zone_0 rt xt)
set_option maxRecDepth 100000 in
set_option maxHeartbeats 4000000 in
theorem kv_M_zone {l : Launch} (hl : l.stackTraces = false) : wq_Vld l kz_cl ky_M_zone kw_T ({ frames := 1, cells := 0, slots := 0, locals := 22 }) wq_G0 ks_M_zone 0 0 := by
  refine wq_method (cc := kc_M_zone) (maxL := 3) (ret := none) (by decide) kw_1275 (fun _ _ => rfl) wq_sp_sz ?_
  intro p e s m args below meth c cs D ad as w rt xt hF hnt hsp
  obtain ⟨h0, hr, hts, hown, hlk, hnm, hml, hK, hZ, hN, hA⟩ := hF
  have hown : s.vm.findClass "BorderDeskModel" = some m.cls := hown
  obtain ⟨A, hAe⟩ : ∃ A, A = wq_A ad w s.heap.size := ⟨_, rfl⟩
  rw [← hAe] at hZ hA ⊢
  have hb_43 : wq_Snd p l e ({ frames := 1, cells := 0, slots := 0, locals := 22 } : Room) s m args below meth c 3 cs D kz_cl A (wq_G0 ad w) (wq_Q cs D kz_cl A (wq_G0 ad w) rt xt below s 0 0) 43 (kt_M_zone_43 rt xt) := by
    exact wq_vreturn_ok h0 hr hlk kd_M_zone_43
  have hb_26 : wq_Snd p l e ({ frames := 1, cells := 0, slots := 0, locals := 22 } : Room) s m args below meth c 3 cs D kz_cl A (wq_G0 ad w) (wq_Q cs D kz_cl A (wq_G0 ad w) rt xt below s 0 0) 26 (kt_M_zone_26 rt xt) := by
    refine wq_put_ok (wq_putOK h0 hts ki_M ka_M kb_M kn_M hown hK (ci := 9) rfl 0 (Nat.le_of_ble_eq_true rfl) kw_982 rfl (Or.inl rfl) wq_okI) kd_M_zone_26 ?_
    refine wq_aload_n_ok h0 kd_M_zone_29 rfl ?_
    refine wq_get_ok (wq_getOK h0 hts ki_M hown hK (ci := 9) rfl 0 (Nat.le_of_ble_eq_true rfl) kw_982 rfl) kd_M_zone_30 ?_
    refine wq_if_ne_ok (tgt := 43) h0 kd_M_zone_33 (by decide) ?_ ?_
    · exact hb_43
    refine wq_aload_n_ok h0 kd_M_zone_36 rfl ?_
    refine wq_get_ok (wq_getOK h0 hts ki_M hown hK (ci := 9) rfl 31 (Nat.le_of_ble_eq_true rfl) kw_1013 rfl) kd_M_zone_37 ?_
    refine wq_iload_n_ok h0 kd_M_zone_40 rfl ?_
    refine wq_iload_n_ok h0 kd_M_zone_41 rfl ?_
    refine wq_iast_ok h0 hK kd_M_zone_42 ?_
    exact hb_43
  have hb_25 : wq_Snd p l e ({ frames := 1, cells := 0, slots := 0, locals := 22 } : Room) s m args below meth c 3 cs D kz_cl A (wq_G0 ad w) (wq_Q cs D kz_cl A (wq_G0 ad w) rt xt below s 0 0) 25 (kt_M_zone_25 rt xt) := by
    refine wq_iconst_ok h0 kd_M_zone_25 (by decide +kernel) ?_
    exact hb_26
  have hb_0 : wq_Snd p l e ({ frames := 1, cells := 0, slots := 0, locals := 22 } : Room) s m args below meth c 3 cs D kz_cl A (wq_G0 ad w) (wq_Q cs D kz_cl A (wq_G0 ad w) rt xt below s 0 0) 0 (kt_M_zone_0 rt xt) := by
    refine wq_aload_n_ok h0 kd_M_zone_0 rfl ?_
    refine wq_iload_n_ok h0 kd_M_zone_1 rfl ?_
    refine wq_iconst_ok h0 kd_M_zone_2 (by decide +kernel) ?_
    refine wq_iconst_ok h0 kd_M_zone_3 (by decide +kernel) ?_
    refine wq_call_ok hA (wq_runS ⟨h0.1, h0.2, hml, hown, hts⟩ (kv_M_within hl) ⟨(wq_cB hts kw_G kw_1209 kw_10 kw_1207 ⟨by decide +kernel, by decide +kernel, by decide +kernel⟩ rfl rfl ⟨Nat.le_of_ble_eq_true rfl, Nat.le_of_ble_eq_true rfl⟩), hts _ kw_1208⟩ hK hZ hN hA kd_M_zone_4) (wq_xout_ok hnt hlk) ?_
    refine wq_if_eq_ok (tgt := 25) h0 kd_M_zone_7 (by decide) ?_ ?_
    · exact hb_25
    refine wq_iload_n_ok h0 kd_M_zone_10 rfl ?_
    refine wq_iconst_ok h0 kd_M_zone_11 (by decide +kernel) ?_
    refine wq_sipush_ok h0 kd_M_zone_12 (by decide +kernel) ?_
    refine wq_call_ok hA (wq_runS ⟨h0.1, h0.2, hml, hown, hts⟩ (kv_M_within hl) ⟨(wq_cB hts kw_G kw_1209 kw_10 kw_1207 ⟨by decide +kernel, by decide +kernel, by decide +kernel⟩ rfl rfl ⟨Nat.le_of_ble_eq_true rfl, Nat.le_of_ble_eq_true rfl⟩), hts _ kw_1208⟩ hK hZ hN hA kd_M_zone_15) (wq_xout_ok hnt hlk) ?_
    refine wq_if_eq_ok (tgt := 25) h0 kd_M_zone_18 (by decide) ?_ ?_
    · exact hb_25
    refine wq_iconst_ok h0 kd_M_zone_21 (by decide +kernel) ?_
    refine wq_goto_ok (tgt := 26) h0 kd_M_zone_22 (by decide) ?_
    exact hb_26
  exact hb_0 _ _ _ _ _ (wq_sp_t hsp)
-- BorderDeskModel.rule(III)V
def kt_M_rule_58 (rt : Option wq_V → wq_W → Prop) (xt : Nat → wq_W → Prop) : wq_T := (wq_vreturn 0 0 rt)
def kt_M_rule_34 (rt : Option wq_V → wq_W → Prop) (xt : Nat → wq_W → Prop) : wq_T := (wq_put 9 0 wq_isI (wq_aload 0 (wq_get 9 0 (wq_f1 (fun x => x = 0) (wq_aload 0 (wq_get 9 3 (wq_iload 1 (wq_iload 2 (wq_iast (wq_aload 0 (wq_get 9 4 (wq_iload 1 (wq_iload 3 (wq_iast (kt_M_rule_58 rt xt))))))))))) (kt_M_rule_58 rt xt)))))
def kt_M_rule_33 (rt : Option wq_V → wq_W → Prop) (xt : Nat → wq_W → Prop) : wq_T := (wq_iconst (nI 1) (kt_M_rule_34 rt xt))
def kt_M_rule_0 (rt : Option wq_V → wq_W → Prop) (xt : Nat → wq_W → Prop) : wq_T := (wq_aload 0 (wq_aload 0 (wq_iload 1 (wq_call (wq_rv 9 ks_M_isHeading) 2 0 0 0 0 (wq_xout 0 0 xt) (wq_f1 (fun x => x = 0) (kt_M_rule_33 rt xt) (wq_iload 2 (wq_iconst (nI 0) (wq_iconst (nI 1) (wq_call ks_M_within 3 0 0 0 0 (wq_xout 0 0 xt) (wq_f1 (fun x => x = 0) (kt_M_rule_33 rt xt) (wq_iload 3 (wq_iconst (nI 0) (wq_iconst (nI 1000) (wq_call ks_M_within 3 0 0 0 0 (wq_xout 0 0 xt) (wq_f1 (fun x => x = 0) (kt_M_rule_33 rt xt) (wq_iconst (nI 0) (kt_M_rule_34 rt xt)))))))))))))))))
def ks_M_rule : wq_S := wq_sp 4 (fun rt xt => kt_M_rule_0 rt xt)
set_option maxRecDepth 100000 in
set_option maxHeartbeats 4000000 in
theorem kv_M_rule {l : Launch} (hl : l.stackTraces = false) : wq_Vld l kz_cl ky_M_rule kw_T ({ frames := 1, cells := 0, slots := 0, locals := 22 }) wq_G0 ks_M_rule 0 0 := by
  refine wq_method (cc := kc_M_rule) (maxL := 4) (ret := none) (by decide) kw_1279 (fun _ _ => rfl) wq_sp_sz ?_
  intro p e s m args below meth c cs D ad as w rt xt hF hnt hsp
  obtain ⟨h0, hr, hts, hown, hlk, hnm, hml, hK, hZ, hN, hA⟩ := hF
  have hown : s.vm.findClass "BorderDeskModel" = some m.cls := hown
  obtain ⟨A, hAe⟩ : ∃ A, A = wq_A ad w s.heap.size := ⟨_, rfl⟩
  rw [← hAe] at hZ hA ⊢
  have hb_58 : wq_Snd p l e ({ frames := 1, cells := 0, slots := 0, locals := 22 } : Room) s m args below meth c 4 cs D kz_cl A (wq_G0 ad w) (wq_Q cs D kz_cl A (wq_G0 ad w) rt xt below s 0 0) 58 (kt_M_rule_58 rt xt) := by
    exact wq_vreturn_ok h0 hr hlk kd_M_rule_58
  have hb_34 : wq_Snd p l e ({ frames := 1, cells := 0, slots := 0, locals := 22 } : Room) s m args below meth c 4 cs D kz_cl A (wq_G0 ad w) (wq_Q cs D kz_cl A (wq_G0 ad w) rt xt below s 0 0) 34 (kt_M_rule_34 rt xt) := by
    refine wq_put_ok (wq_putOK h0 hts ki_M ka_M kb_M kn_M hown hK (ci := 9) rfl 0 (Nat.le_of_ble_eq_true rfl) kw_982 rfl (Or.inl rfl) wq_okI) kd_M_rule_34 ?_
    refine wq_aload_n_ok h0 kd_M_rule_37 rfl ?_
    refine wq_get_ok (wq_getOK h0 hts ki_M hown hK (ci := 9) rfl 0 (Nat.le_of_ble_eq_true rfl) kw_982 rfl) kd_M_rule_38 ?_
    refine wq_if_ne_ok (tgt := 58) h0 kd_M_rule_41 (by decide) ?_ ?_
    · exact hb_58
    refine wq_aload_n_ok h0 kd_M_rule_44 rfl ?_
    refine wq_get_ok (wq_getOK h0 hts ki_M hown hK (ci := 9) rfl 3 (Nat.le_of_ble_eq_true rfl) kw_985 rfl) kd_M_rule_45 ?_
    refine wq_iload_n_ok h0 kd_M_rule_48 rfl ?_
    refine wq_iload_n_ok h0 kd_M_rule_49 rfl ?_
    refine wq_iast_ok h0 hK kd_M_rule_50 ?_
    refine wq_aload_n_ok h0 kd_M_rule_51 rfl ?_
    refine wq_get_ok (wq_getOK h0 hts ki_M hown hK (ci := 9) rfl 4 (Nat.le_of_ble_eq_true rfl) kw_986 rfl) kd_M_rule_52 ?_
    refine wq_iload_n_ok h0 kd_M_rule_55 rfl ?_
    refine wq_iload_n_ok h0 kd_M_rule_56 rfl ?_
    refine wq_iast_ok h0 hK kd_M_rule_57 ?_
    exact hb_58
  have hb_33 : wq_Snd p l e ({ frames := 1, cells := 0, slots := 0, locals := 22 } : Room) s m args below meth c 4 cs D kz_cl A (wq_G0 ad w) (wq_Q cs D kz_cl A (wq_G0 ad w) rt xt below s 0 0) 33 (kt_M_rule_33 rt xt) := by
    refine wq_iconst_ok h0 kd_M_rule_33 (by decide +kernel) ?_
    exact hb_34
  have hb_0 : wq_Snd p l e ({ frames := 1, cells := 0, slots := 0, locals := 22 } : Room) s m args below meth c 4 cs D kz_cl A (wq_G0 ad w) (wq_Q cs D kz_cl A (wq_G0 ad w) rt xt below s 0 0) 0 (kt_M_rule_0 rt xt) := by
    refine wq_aload_n_ok h0 kd_M_rule_0 rfl ?_
    refine wq_aload_n_ok h0 kd_M_rule_1 rfl ?_
    refine wq_iload_n_ok h0 kd_M_rule_2 rfl ?_
    refine wq_call_ok hA (wq_runV (ci := 9) ⟨h0.1, h0.2, hml, hown, hts⟩ (kv_M_isHeading hl) ⟨(wq_cB hts kw_G kw_1198 kw_10 kw_1195 ⟨by decide +kernel, by decide +kernel, by decide +kernel⟩ rfl rfl ⟨Nat.le_of_ble_eq_true rfl, Nat.le_of_ble_eq_true rfl⟩), hts _ kw_1197, hts _ kw_s28⟩ rfl rfl hK hZ hN hA kd_M_rule_3) (wq_xout_ok hnt hlk) ?_
    refine wq_if_eq_ok (tgt := 33) h0 kd_M_rule_6 (by decide) ?_ ?_
    · exact hb_33
    refine wq_iload_n_ok h0 kd_M_rule_9 rfl ?_
    refine wq_iconst_ok h0 kd_M_rule_10 (by decide +kernel) ?_
    refine wq_iconst_ok h0 kd_M_rule_11 (by decide +kernel) ?_
    refine wq_call_ok hA (wq_runS ⟨h0.1, h0.2, hml, hown, hts⟩ (kv_M_within hl) ⟨(wq_cB hts kw_G kw_1209 kw_10 kw_1207 ⟨by decide +kernel, by decide +kernel, by decide +kernel⟩ rfl rfl ⟨Nat.le_of_ble_eq_true rfl, Nat.le_of_ble_eq_true rfl⟩), hts _ kw_1208⟩ hK hZ hN hA kd_M_rule_12) (wq_xout_ok hnt hlk) ?_
    refine wq_if_eq_ok (tgt := 33) h0 kd_M_rule_15 (by decide) ?_ ?_
    · exact hb_33
    refine wq_iload_n_ok h0 kd_M_rule_18 rfl ?_
    refine wq_iconst_ok h0 kd_M_rule_19 (by decide +kernel) ?_
    refine wq_sipush_ok h0 kd_M_rule_20 (by decide +kernel) ?_
    refine wq_call_ok hA (wq_runS ⟨h0.1, h0.2, hml, hown, hts⟩ (kv_M_within hl) ⟨(wq_cB hts kw_G kw_1209 kw_10 kw_1207 ⟨by decide +kernel, by decide +kernel, by decide +kernel⟩ rfl rfl ⟨Nat.le_of_ble_eq_true rfl, Nat.le_of_ble_eq_true rfl⟩), hts _ kw_1208⟩ hK hZ hN hA kd_M_rule_23) (wq_xout_ok hnt hlk) ?_
    refine wq_if_eq_ok (tgt := 33) h0 kd_M_rule_26 (by decide) ?_ ?_
    · exact hb_33
    refine wq_iconst_ok h0 kd_M_rule_29 (by decide +kernel) ?_
    refine wq_goto_ok (tgt := 34) h0 kd_M_rule_30 (by decide) ?_
    exact hb_34
  exact hb_0 _ _ _ _ _ (wq_sp_t hsp)
-- BorderDeskModel.isMade(II)Z
def kt_M_isMade_43 (rt : Option wq_V → wq_W → Prop) (xt : Nat → wq_W → Prop) (K : Nat → wq_T) : wq_T := (wq_iconst (nI 0) (wq_zreturn 0 0 rt))
def kt_M_isMade_45 (rt : Option wq_V → wq_W → Prop) (xt : Nat → wq_W → Prop) (K : Nat → wq_T) : wq_T := (wq_lconst (0 : Int64) (wq_lstore 4 (wq_lconst (0 : Int64) (wq_lstore 6 (wq_iconst (nI 1) (wq_istore 8 (wq_iconst (nI 5) (wq_iload 1 (wq_i2 (fun x y => x * y) (wq_istore 9 (K 59)))))))))))
def kt_M_isMade_30 (rt : Option wq_V → wq_W → Prop) (xt : Nat → wq_W → Prop) (K : Nat → wq_T) : wq_T := (wq_iload 3 (wq_f1 (fun x => x < 0) (kt_M_isMade_43 rt xt K) (wq_aload 0 (wq_get 9 27 (wq_iload 1 (wq_iald (wq_f1 (fun x => x = 0) (kt_M_isMade_43 rt xt K) (kt_M_isMade_45 rt xt K))))))))
def kh_M_isMade_7 (rt : Option wq_V → wq_W → Prop) (xt : Nat → wq_W → Prop) (K : Nat → wq_T) : wq_T := (wq_iload 3 (wq_f1 (fun x => x < 0) (kt_M_isMade_30 rt xt K) (wq_aload 0 (wq_get 9 3 (wq_iload 3 (wq_iald (wq_f1 (fun x => 0 ≤ x) (kt_M_isMade_30 rt xt K) (wq_aload 0 (wq_get 9 2 (wq_iload 3 (wq_iald (wq_istore 3 (K 7)))))))))))))
def kt_M_isMade_238 (rt : Option wq_V → wq_W → Prop) (xt : Nat → wq_W → Prop) (K : Nat → wq_T) : wq_T := (wq_zreturn 0 0 rt)
def kt_M_isMade_237 (rt : Option wq_V → wq_W → Prop) (xt : Nat → wq_W → Prop) (K : Nat → wq_T) : wq_T := (wq_iconst (nI 0) (kt_M_isMade_238 rt xt K))
def kt_M_isMade_213 (rt : Option wq_V → wq_W → Prop) (xt : Nat → wq_W → Prop) (K : Nat → wq_T) : wq_T := (wq_lconst (1000) (wq_lload 4 (wq_l2 (fun x y => x * y) (wq_aload 0 (wq_get 9 4 (wq_iload 3 (wq_iald (wq_i2l (wq_lload 6 (wq_l2 (fun x y => x * y) (wq_fl (fun x y => y < x) (kt_M_isMade_237 rt xt K) (wq_iconst (nI 1) (kt_M_isMade_238 rt xt K)))))))))))))
def kt_M_isMade_199 (rt : Option wq_V → wq_W → Prop) (xt : Nat → wq_W → Prop) (K : Nat → wq_T) : wq_T := (wq_aload 0 (wq_get 9 3 (wq_iload 3 (wq_iald (wq_f1 (fun x => x = 0) (wq_iload 8 (kt_M_isMade_238 rt xt K)) (kt_M_isMade_213 rt xt K))))))
def kt_M_isMade_191 (rt : Option wq_V → wq_W → Prop) (xt : Nat → wq_W → Prop) (K : Nat → wq_T) : wq_T := (wq_istore 8 (wq_iinc 9 (nI 1) (K 59)))
def kt_M_isMade_190 (rt : Option wq_V → wq_W → Prop) (xt : Nat → wq_W → Prop) (K : Nat → wq_T) : wq_T := (wq_iconst (nI 0) (kt_M_isMade_191 rt xt K))
def kt_M_isMade_186 (rt : Option wq_V → wq_W → Prop) (xt : Nat → wq_W → Prop) (K : Nat → wq_T) : wq_T := (wq_iconst (nI 1) (kt_M_isMade_191 rt xt K))
def kt_M_isMade_158 (rt : Option wq_V → wq_W → Prop) (xt : Nat → wq_W → Prop) (K : Nat → wq_T) : wq_T := (wq_lstore 4 (wq_iload 8 (wq_f1 (fun x => x = 0) (kt_M_isMade_190 rt xt K) (wq_iload 11 (wq_f1 (fun x => x = 0) (kt_M_isMade_186 rt xt K) (wq_aload 0 (wq_get 9 32 (wq_iload 10 (wq_iald (wq_aload 0 (wq_get 9 32 (wq_iload 1 (wq_iald (wq_f2 (fun x y => x = y) (kt_M_isMade_190 rt xt K) (kt_M_isMade_186 rt xt K)))))))))))))))
def kt_M_isMade_156 (rt : Option wq_V → wq_W → Prop) (xt : Nat → wq_W → Prop) (K : Nat → wq_T) : wq_T := (wq_lload 4 (kt_M_isMade_158 rt xt K))
def kt_M_isMade_122 (rt : Option wq_V → wq_W → Prop) (xt : Nat → wq_W → Prop) (K : Nat → wq_T) : wq_T := (wq_istore 11 (wq_lload 6 (wq_aload 0 (wq_get 9 29 (wq_iload 9 (wq_iald (wq_i2l (wq_l2 (fun x y => x + y) (wq_lstore 6 (wq_iload 11 (wq_f1 (fun x => x = 0) (kt_M_isMade_156 rt xt K) (wq_lload 4 (wq_aload 0 (wq_get 9 29 (wq_iload 9 (wq_iald (wq_i2l (wq_l2 (fun x y => x + y) (kt_M_isMade_158 rt xt K)))))))))))))))))))
def kt_M_isMade_117 (rt : Option wq_V → wq_W → Prop) (xt : Nat → wq_W → Prop) (K : Nat → wq_T) : wq_T := (wq_iconst (nI 1) (kt_M_isMade_122 rt xt K))
def kt_M_isMade_121 (rt : Option wq_V → wq_W → Prop) (xt : Nat → wq_W → Prop) (K : Nat → wq_T) : wq_T := (wq_iconst (nI 0) (kt_M_isMade_122 rt xt K))
def kh_M_isMade_59 (rt : Option wq_V → wq_W → Prop) (xt : Nat → wq_W → Prop) (K : Nat → wq_T) : wq_T := (wq_iload 9 (wq_iconst (nI 5) (wq_iload 1 (wq_i2 (fun x y => x * y) (wq_aload 0 (wq_get 9 27 (wq_iload 1 (wq_iald (wq_i2 (fun x y => x + y) (wq_f2 (fun x y => y ≤ x) (kt_M_isMade_199 rt xt K) (wq_aload 0 (wq_get 9 28 (wq_iload 9 (wq_iald (wq_istore 10 (wq_iload 2 (wq_aload 0 (wq_get 9 30 (wq_iload 9 (wq_iald (wq_i2 (fun x y => x >>> (y &&& 31)) (wq_iconst (nI 1) (wq_i2 (fun x y => x &&& y) (wq_f1 (fun x => x = 0) (kt_M_isMade_117 rt xt K) (wq_aload 0 (wq_get 9 27 (wq_iload 10 (wq_iald (wq_f1 (fun x => x ≤ 0) (kt_M_isMade_121 rt xt K) (wq_aload 0 (wq_get 9 34 (wq_iload 10 (wq_zald (wq_f1 (fun x => x = 0) (kt_M_isMade_117 rt xt K) (kt_M_isMade_121 rt xt K)))))))))))))))))))))))))))))))))))
def kt_M_isMade_0 (rt : Option wq_V → wq_W → Prop) (xt : Nat → wq_W → Prop) (K : Nat → wq_T) : wq_T := (wq_aload 0 (wq_get 9 32 (wq_iload 1 (wq_iald (wq_istore 3 (K 7))))))
def ku_M_isMade (rt : Option wq_V → wq_W → Prop) (xt : Nat → wq_W → Prop) : Nat → Nat → wq_T
  | 0, _ => fun _ _ _ _ _ => False
  | n + 1, pc => cond (Nat.beq pc 7) (kh_M_isMade_7 rt xt (ku_M_isMade rt xt n)) (cond (Nat.beq pc 59) (kh_M_isMade_59 rt xt (ku_M_isMade rt xt n)) (fun _ _ _ _ _ => False))
def ks_M_isMade : wq_S := wq_sp 12 (fun rt xt => kt_M_isMade_0 rt xt (ku_M_isMade rt xt 40))
set_option maxRecDepth 100000 in
set_option maxHeartbeats 4000000 in
theorem kv_M_isMade {l : Launch} (hl : l.stackTraces = false) : wq_Vld l kz_cl ky_M_isMade kw_T ({ frames := 0, cells := 0, slots := 0, locals := 0 }) wq_G0 ks_M_isMade 0 0 := by
  refine wq_method (cc := kc_M_isMade) (maxL := 12) (ret := (some .boolean)) (by decide) kw_1287 (fun _ _ => rfl) wq_sp_sz ?_
  intro p e s m args below meth c cs D ad as w rt xt hF hnt hsp
  obtain ⟨h0, hr, hts, hown, hlk, hnm, hml, hK, hZ, hN, hA⟩ := hF
  have hown : s.vm.findClass "BorderDeskModel" = some m.cls := hown
  obtain ⟨A, hAe⟩ : ∃ A, A = wq_A ad w s.heap.size := ⟨_, rfl⟩
  rw [← hAe] at hZ hA ⊢
  have hall : ∀ K : Nat → wq_T, (∀ pc, pc ∈ [7, 59] → wq_Snd p l e ({ frames := 0, cells := 0, slots := 0, locals := 0 } : Room) s m args below meth c 12 cs D kz_cl A (wq_G0 ad w) (wq_Q cs D kz_cl A (wq_G0 ad w) rt xt below s 0 0) pc (K pc)) → (∀ pc, pc ∈ [7, 59] → wq_Snd p l e ({ frames := 0, cells := 0, slots := 0, locals := 0 } : Room) s m args below meth c 12 cs D kz_cl A (wq_G0 ad w) (wq_Q cs D kz_cl A (wq_G0 ad w) rt xt below s 0 0) pc (cond (Nat.beq pc 7) (kh_M_isMade_7 rt xt K) (cond (Nat.beq pc 59) (kh_M_isMade_59 rt xt K) (fun _ _ _ _ _ => False)))) ∧ wq_Snd p l e ({ frames := 0, cells := 0, slots := 0, locals := 0 } : Room) s m args below meth c 12 cs D kz_cl A (wq_G0 ad w) (wq_Q cs D kz_cl A (wq_G0 ad w) rt xt below s 0 0) 0 (kt_M_isMade_0 rt xt K) := by
    intro K hKc
    have hb_43 : wq_Snd p l e ({ frames := 0, cells := 0, slots := 0, locals := 0 } : Room) s m args below meth c 12 cs D kz_cl A (wq_G0 ad w) (wq_Q cs D kz_cl A (wq_G0 ad w) rt xt below s 0 0) 43 (kt_M_isMade_43 rt xt K) := by
      refine wq_iconst_ok h0 kd_M_isMade_43 (by decide +kernel) ?_
      exact wq_zreturn_ok h0 hr hlk kd_M_isMade_44
    have hb_45 : wq_Snd p l e ({ frames := 0, cells := 0, slots := 0, locals := 0 } : Room) s m args below meth c 12 cs D kz_cl A (wq_G0 ad w) (wq_Q cs D kz_cl A (wq_G0 ad w) rt xt below s 0 0) 45 (kt_M_isMade_45 rt xt K) := by
      refine wq_lconst_ok h0 kd_M_isMade_45 (by decide +kernel) ?_
      refine wq_lstore_ok h0 kd_M_isMade_46 (Nat.le_of_ble_eq_true rfl) ?_
      refine wq_lconst_ok h0 kd_M_isMade_48 (by decide +kernel) ?_
      refine wq_lstore_ok h0 kd_M_isMade_49 (Nat.le_of_ble_eq_true rfl) ?_
      refine wq_iconst_ok h0 kd_M_isMade_51 (by decide +kernel) ?_
      refine wq_istore_ok h0 kd_M_isMade_52 (Nat.le_of_ble_eq_true rfl) ?_
      refine wq_iconst_ok h0 kd_M_isMade_54 (by decide +kernel) ?_
      refine wq_iload_n_ok h0 kd_M_isMade_55 rfl ?_
      refine wq_imul_ok h0 kd_M_isMade_56 ?_
      refine wq_istore_ok h0 kd_M_isMade_57 (Nat.le_of_ble_eq_true rfl) ?_
      exact hKc 59 (by decide)
    have hb_30 : wq_Snd p l e ({ frames := 0, cells := 0, slots := 0, locals := 0 } : Room) s m args below meth c 12 cs D kz_cl A (wq_G0 ad w) (wq_Q cs D kz_cl A (wq_G0 ad w) rt xt below s 0 0) 30 (kt_M_isMade_30 rt xt K) := by
      refine wq_iload_n_ok h0 kd_M_isMade_30 rfl ?_
      refine wq_if_lt_ok (tgt := 43) h0 kd_M_isMade_31 (by decide) ?_ ?_
      · exact hb_43
      refine wq_aload_n_ok h0 kd_M_isMade_34 rfl ?_
      refine wq_get_ok (wq_getOK h0 hts ki_M hown hK (ci := 9) rfl 27 (Nat.le_of_ble_eq_true rfl) kw_1009 rfl) kd_M_isMade_35 ?_
      refine wq_iload_n_ok h0 kd_M_isMade_38 rfl ?_
      refine wq_iald_ok h0 hK kd_M_isMade_39 ?_
      refine wq_if_ne_ok (tgt := 45) h0 kd_M_isMade_40 (by decide) ?_ ?_
      · exact hb_45
      exact hb_43
    have hb_7 : wq_Snd p l e ({ frames := 0, cells := 0, slots := 0, locals := 0 } : Room) s m args below meth c 12 cs D kz_cl A (wq_G0 ad w) (wq_Q cs D kz_cl A (wq_G0 ad w) rt xt below s 0 0) 7 (kh_M_isMade_7 rt xt K) := by
      refine wq_iload_n_ok h0 kd_M_isMade_7 rfl ?_
      refine wq_if_lt_ok (tgt := 30) h0 kd_M_isMade_8 (by decide) ?_ ?_
      · exact hb_30
      refine wq_aload_n_ok h0 kd_M_isMade_11 rfl ?_
      refine wq_get_ok (wq_getOK h0 hts ki_M hown hK (ci := 9) rfl 3 (Nat.le_of_ble_eq_true rfl) kw_985 rfl) kd_M_isMade_12 ?_
      refine wq_iload_n_ok h0 kd_M_isMade_15 rfl ?_
      refine wq_iald_ok h0 hK kd_M_isMade_16 ?_
      refine wq_if_ge_ok (tgt := 30) h0 kd_M_isMade_17 (by decide) ?_ ?_
      · exact hb_30
      refine wq_aload_n_ok h0 kd_M_isMade_20 rfl ?_
      refine wq_get_ok (wq_getOK h0 hts ki_M hown hK (ci := 9) rfl 2 (Nat.le_of_ble_eq_true rfl) kw_984 rfl) kd_M_isMade_21 ?_
      refine wq_iload_n_ok h0 kd_M_isMade_24 rfl ?_
      refine wq_iald_ok h0 hK kd_M_isMade_25 ?_
      refine wq_istore_n_ok h0 kd_M_isMade_26 rfl (Nat.le_of_ble_eq_true rfl) ?_
      refine wq_goto_ok (tgt := 7) h0 kd_M_isMade_27 (by decide) ?_
      exact hKc 7 (by decide)
    have hb_238 : wq_Snd p l e ({ frames := 0, cells := 0, slots := 0, locals := 0 } : Room) s m args below meth c 12 cs D kz_cl A (wq_G0 ad w) (wq_Q cs D kz_cl A (wq_G0 ad w) rt xt below s 0 0) 238 (kt_M_isMade_238 rt xt K) := by
      exact wq_zreturn_ok h0 hr hlk kd_M_isMade_238
    have hb_237 : wq_Snd p l e ({ frames := 0, cells := 0, slots := 0, locals := 0 } : Room) s m args below meth c 12 cs D kz_cl A (wq_G0 ad w) (wq_Q cs D kz_cl A (wq_G0 ad w) rt xt below s 0 0) 237 (kt_M_isMade_237 rt xt K) := by
      refine wq_iconst_ok h0 kd_M_isMade_237 (by decide +kernel) ?_
      exact hb_238
    have hb_213 : wq_Snd p l e ({ frames := 0, cells := 0, slots := 0, locals := 0 } : Room) s m args below meth c 12 cs D kz_cl A (wq_G0 ad w) (wq_Q cs D kz_cl A (wq_G0 ad w) rt xt below s 0 0) 213 (kt_M_isMade_213 rt xt K) := by
      refine wq_ldc2_ok (v := 1000) h0 hown (hts _ kw_1288) kd_M_isMade_213 ?_
      refine wq_lload_ok h0 kd_M_isMade_216 ?_
      refine wq_lmul_ok h0 kd_M_isMade_218 ?_
      refine wq_aload_n_ok h0 kd_M_isMade_219 rfl ?_
      refine wq_get_ok (wq_getOK h0 hts ki_M hown hK (ci := 9) rfl 4 (Nat.le_of_ble_eq_true rfl) kw_986 rfl) kd_M_isMade_220 ?_
      refine wq_iload_n_ok h0 kd_M_isMade_223 rfl ?_
      refine wq_iald_ok h0 hK kd_M_isMade_224 ?_
      refine wq_i2l_ok h0 kd_M_isMade_225 ?_
      refine wq_lload_ok h0 kd_M_isMade_226 ?_
      refine wq_lmul_ok h0 kd_M_isMade_228 ?_
      refine wq_lcmp_gt_ok (tgt := 237) h0 kd_M_isMade_229 kd_M_isMade_230 (by decide) ?_ ?_
      · exact hb_237
      refine wq_iconst_ok h0 kd_M_isMade_233 (by decide +kernel) ?_
      refine wq_goto_ok (tgt := 238) h0 kd_M_isMade_234 (by decide) ?_
      exact hb_238
    have hb_199 : wq_Snd p l e ({ frames := 0, cells := 0, slots := 0, locals := 0 } : Room) s m args below meth c 12 cs D kz_cl A (wq_G0 ad w) (wq_Q cs D kz_cl A (wq_G0 ad w) rt xt below s 0 0) 199 (kt_M_isMade_199 rt xt K) := by
      refine wq_aload_n_ok h0 kd_M_isMade_199 rfl ?_
      refine wq_get_ok (wq_getOK h0 hts ki_M hown hK (ci := 9) rfl 3 (Nat.le_of_ble_eq_true rfl) kw_985 rfl) kd_M_isMade_200 ?_
      refine wq_iload_n_ok h0 kd_M_isMade_203 rfl ?_
      refine wq_iald_ok h0 hK kd_M_isMade_204 ?_
      refine wq_if_ne_ok (tgt := 213) h0 kd_M_isMade_205 (by decide) ?_ ?_
      · exact hb_213
      refine wq_iload_ok h0 kd_M_isMade_208 ?_
      refine wq_goto_ok (tgt := 238) h0 kd_M_isMade_210 (by decide) ?_
      exact hb_238
    have hb_191 : wq_Snd p l e ({ frames := 0, cells := 0, slots := 0, locals := 0 } : Room) s m args below meth c 12 cs D kz_cl A (wq_G0 ad w) (wq_Q cs D kz_cl A (wq_G0 ad w) rt xt below s 0 0) 191 (kt_M_isMade_191 rt xt K) := by
      refine wq_istore_ok h0 kd_M_isMade_191 (Nat.le_of_ble_eq_true rfl) ?_
      refine wq_iinc_ok h0 kd_M_isMade_193 (by decide +kernel) (Nat.le_of_ble_eq_true rfl) ?_
      refine wq_goto_ok (tgt := 59) h0 kd_M_isMade_196 (by decide) ?_
      exact hKc 59 (by decide)
    have hb_190 : wq_Snd p l e ({ frames := 0, cells := 0, slots := 0, locals := 0 } : Room) s m args below meth c 12 cs D kz_cl A (wq_G0 ad w) (wq_Q cs D kz_cl A (wq_G0 ad w) rt xt below s 0 0) 190 (kt_M_isMade_190 rt xt K) := by
      refine wq_iconst_ok h0 kd_M_isMade_190 (by decide +kernel) ?_
      exact hb_191
    have hb_186 : wq_Snd p l e ({ frames := 0, cells := 0, slots := 0, locals := 0 } : Room) s m args below meth c 12 cs D kz_cl A (wq_G0 ad w) (wq_Q cs D kz_cl A (wq_G0 ad w) rt xt below s 0 0) 186 (kt_M_isMade_186 rt xt K) := by
      refine wq_iconst_ok h0 kd_M_isMade_186 (by decide +kernel) ?_
      refine wq_goto_ok (tgt := 191) h0 kd_M_isMade_187 (by decide) ?_
      exact hb_191
    have hb_158 : wq_Snd p l e ({ frames := 0, cells := 0, slots := 0, locals := 0 } : Room) s m args below meth c 12 cs D kz_cl A (wq_G0 ad w) (wq_Q cs D kz_cl A (wq_G0 ad w) rt xt below s 0 0) 158 (kt_M_isMade_158 rt xt K) := by
      refine wq_lstore_ok h0 kd_M_isMade_158 (Nat.le_of_ble_eq_true rfl) ?_
      refine wq_iload_ok h0 kd_M_isMade_160 ?_
      refine wq_if_eq_ok (tgt := 190) h0 kd_M_isMade_162 (by decide) ?_ ?_
      · exact hb_190
      refine wq_iload_ok h0 kd_M_isMade_165 ?_
      refine wq_if_eq_ok (tgt := 186) h0 kd_M_isMade_167 (by decide) ?_ ?_
      · exact hb_186
      refine wq_aload_n_ok h0 kd_M_isMade_170 rfl ?_
      refine wq_get_ok (wq_getOK h0 hts ki_M hown hK (ci := 9) rfl 32 (Nat.le_of_ble_eq_true rfl) kw_1014 rfl) kd_M_isMade_171 ?_
      refine wq_iload_ok h0 kd_M_isMade_174 ?_
      refine wq_iald_ok h0 hK kd_M_isMade_176 ?_
      refine wq_aload_n_ok h0 kd_M_isMade_177 rfl ?_
      refine wq_get_ok (wq_getOK h0 hts ki_M hown hK (ci := 9) rfl 32 (Nat.le_of_ble_eq_true rfl) kw_1014 rfl) kd_M_isMade_178 ?_
      refine wq_iload_n_ok h0 kd_M_isMade_181 rfl ?_
      refine wq_iald_ok h0 hK kd_M_isMade_182 ?_
      refine wq_icmp_eq_ok (tgt := 190) h0 kd_M_isMade_183 (by decide) ?_ ?_
      · exact hb_190
      exact hb_186
    have hb_156 : wq_Snd p l e ({ frames := 0, cells := 0, slots := 0, locals := 0 } : Room) s m args below meth c 12 cs D kz_cl A (wq_G0 ad w) (wq_Q cs D kz_cl A (wq_G0 ad w) rt xt below s 0 0) 156 (kt_M_isMade_156 rt xt K) := by
      refine wq_lload_ok h0 kd_M_isMade_156 ?_
      exact hb_158
    have hb_122 : wq_Snd p l e ({ frames := 0, cells := 0, slots := 0, locals := 0 } : Room) s m args below meth c 12 cs D kz_cl A (wq_G0 ad w) (wq_Q cs D kz_cl A (wq_G0 ad w) rt xt below s 0 0) 122 (kt_M_isMade_122 rt xt K) := by
      refine wq_istore_ok h0 kd_M_isMade_122 (Nat.le_of_ble_eq_true rfl) ?_
      refine wq_lload_ok h0 kd_M_isMade_124 ?_
      refine wq_aload_n_ok h0 kd_M_isMade_126 rfl ?_
      refine wq_get_ok (wq_getOK h0 hts ki_M hown hK (ci := 9) rfl 29 (Nat.le_of_ble_eq_true rfl) kw_1011 rfl) kd_M_isMade_127 ?_
      refine wq_iload_ok h0 kd_M_isMade_130 ?_
      refine wq_iald_ok h0 hK kd_M_isMade_132 ?_
      refine wq_i2l_ok h0 kd_M_isMade_133 ?_
      refine wq_ladd_ok h0 kd_M_isMade_134 ?_
      refine wq_lstore_ok h0 kd_M_isMade_135 (Nat.le_of_ble_eq_true rfl) ?_
      refine wq_iload_ok h0 kd_M_isMade_137 ?_
      refine wq_if_eq_ok (tgt := 156) h0 kd_M_isMade_139 (by decide) ?_ ?_
      · exact hb_156
      refine wq_lload_ok h0 kd_M_isMade_142 ?_
      refine wq_aload_n_ok h0 kd_M_isMade_144 rfl ?_
      refine wq_get_ok (wq_getOK h0 hts ki_M hown hK (ci := 9) rfl 29 (Nat.le_of_ble_eq_true rfl) kw_1011 rfl) kd_M_isMade_145 ?_
      refine wq_iload_ok h0 kd_M_isMade_148 ?_
      refine wq_iald_ok h0 hK kd_M_isMade_150 ?_
      refine wq_i2l_ok h0 kd_M_isMade_151 ?_
      refine wq_ladd_ok h0 kd_M_isMade_152 ?_
      refine wq_goto_ok (tgt := 158) h0 kd_M_isMade_153 (by decide) ?_
      exact hb_158
    have hb_117 : wq_Snd p l e ({ frames := 0, cells := 0, slots := 0, locals := 0 } : Room) s m args below meth c 12 cs D kz_cl A (wq_G0 ad w) (wq_Q cs D kz_cl A (wq_G0 ad w) rt xt below s 0 0) 117 (kt_M_isMade_117 rt xt K) := by
      refine wq_iconst_ok h0 kd_M_isMade_117 (by decide +kernel) ?_
      refine wq_goto_ok (tgt := 122) h0 kd_M_isMade_118 (by decide) ?_
      exact hb_122
    have hb_121 : wq_Snd p l e ({ frames := 0, cells := 0, slots := 0, locals := 0 } : Room) s m args below meth c 12 cs D kz_cl A (wq_G0 ad w) (wq_Q cs D kz_cl A (wq_G0 ad w) rt xt below s 0 0) 121 (kt_M_isMade_121 rt xt K) := by
      refine wq_iconst_ok h0 kd_M_isMade_121 (by decide +kernel) ?_
      exact hb_122
    have hb_59 : wq_Snd p l e ({ frames := 0, cells := 0, slots := 0, locals := 0 } : Room) s m args below meth c 12 cs D kz_cl A (wq_G0 ad w) (wq_Q cs D kz_cl A (wq_G0 ad w) rt xt below s 0 0) 59 (kh_M_isMade_59 rt xt K) := by
      refine wq_iload_ok h0 kd_M_isMade_59 ?_
      refine wq_iconst_ok h0 kd_M_isMade_61 (by decide +kernel) ?_
      refine wq_iload_n_ok h0 kd_M_isMade_62 rfl ?_
      refine wq_imul_ok h0 kd_M_isMade_63 ?_
      refine wq_aload_n_ok h0 kd_M_isMade_64 rfl ?_
      refine wq_get_ok (wq_getOK h0 hts ki_M hown hK (ci := 9) rfl 27 (Nat.le_of_ble_eq_true rfl) kw_1009 rfl) kd_M_isMade_65 ?_
      refine wq_iload_n_ok h0 kd_M_isMade_68 rfl ?_
      refine wq_iald_ok h0 hK kd_M_isMade_69 ?_
      refine wq_iadd_ok h0 kd_M_isMade_70 ?_
      refine wq_icmp_ge_ok (tgt := 199) h0 kd_M_isMade_71 (by decide) ?_ ?_
      · exact hb_199
      refine wq_aload_n_ok h0 kd_M_isMade_74 rfl ?_
      refine wq_get_ok (wq_getOK h0 hts ki_M hown hK (ci := 9) rfl 28 (Nat.le_of_ble_eq_true rfl) kw_1010 rfl) kd_M_isMade_75 ?_
      refine wq_iload_ok h0 kd_M_isMade_78 ?_
      refine wq_iald_ok h0 hK kd_M_isMade_80 ?_
      refine wq_istore_ok h0 kd_M_isMade_81 (Nat.le_of_ble_eq_true rfl) ?_
      refine wq_iload_n_ok h0 kd_M_isMade_83 rfl ?_
      refine wq_aload_n_ok h0 kd_M_isMade_84 rfl ?_
      refine wq_get_ok (wq_getOK h0 hts ki_M hown hK (ci := 9) rfl 30 (Nat.le_of_ble_eq_true rfl) kw_1012 rfl) kd_M_isMade_85 ?_
      refine wq_iload_ok h0 kd_M_isMade_88 ?_
      refine wq_iald_ok h0 hK kd_M_isMade_90 ?_
      refine wq_ishr_ok h0 kd_M_isMade_91 ?_
      refine wq_iconst_ok h0 kd_M_isMade_92 (by decide +kernel) ?_
      refine wq_iand_ok h0 kd_M_isMade_93 ?_
      refine wq_if_eq_ok (tgt := 117) h0 kd_M_isMade_94 (by decide) ?_ ?_
      · exact hb_117
      refine wq_aload_n_ok h0 kd_M_isMade_97 rfl ?_
      refine wq_get_ok (wq_getOK h0 hts ki_M hown hK (ci := 9) rfl 27 (Nat.le_of_ble_eq_true rfl) kw_1009 rfl) kd_M_isMade_98 ?_
      refine wq_iload_ok h0 kd_M_isMade_101 ?_
      refine wq_iald_ok h0 hK kd_M_isMade_103 ?_
      refine wq_if_le_ok (tgt := 121) h0 kd_M_isMade_104 (by decide) ?_ ?_
      · exact hb_121
      refine wq_aload_n_ok h0 kd_M_isMade_107 rfl ?_
      refine wq_get_ok (wq_getOK h0 hts ki_M hown hK (ci := 9) rfl 34 (Nat.le_of_ble_eq_true rfl) kw_1016 rfl) kd_M_isMade_108 ?_
      refine wq_iload_ok h0 kd_M_isMade_111 ?_
      refine wq_zald_ok h0 hK kd_M_isMade_113 ?_
      refine wq_if_ne_ok (tgt := 121) h0 kd_M_isMade_114 (by decide) ?_ ?_
      · exact hb_121
      exact hb_117
    have hb_0 : wq_Snd p l e ({ frames := 0, cells := 0, slots := 0, locals := 0 } : Room) s m args below meth c 12 cs D kz_cl A (wq_G0 ad w) (wq_Q cs D kz_cl A (wq_G0 ad w) rt xt below s 0 0) 0 (kt_M_isMade_0 rt xt K) := by
      refine wq_aload_n_ok h0 kd_M_isMade_0 rfl ?_
      refine wq_get_ok (wq_getOK h0 hts ki_M hown hK (ci := 9) rfl 32 (Nat.le_of_ble_eq_true rfl) kw_1014 rfl) kd_M_isMade_1 ?_
      refine wq_iload_n_ok h0 kd_M_isMade_4 rfl ?_
      refine wq_iald_ok h0 hK kd_M_isMade_5 ?_
      refine wq_istore_n_ok h0 kd_M_isMade_6 rfl (Nat.le_of_ble_eq_true rfl) ?_
      exact hKc 7 (by decide)
    refine ⟨?_, hb_0⟩
    exact List.forall_mem_cons.mpr ⟨hb_7, List.forall_mem_cons.mpr ⟨hb_59, fun _ h => absurd h List.not_mem_nil⟩⟩
  have hun : ∀ (n pc : Nat), pc ∈ [7, 59] → wq_Snd p l e ({ frames := 0, cells := 0, slots := 0, locals := 0 } : Room) s m args below meth c 12 cs D kz_cl A (wq_G0 ad w) (wq_Q cs D kz_cl A (wq_G0 ad w) rt xt below s 0 0) pc (ku_M_isMade rt xt n pc) := by
    intro n
    induction n with
    | zero => intro pc _ L S w9 n1 n2 h; exact h.elim
    | succ n ih => intro pc hpc; exact (hall (ku_M_isMade rt xt n) ih).1 pc hpc
  exact (hall (ku_M_isMade rt xt 40) (hun 40)).2 _ _ _ _ _ (wq_sp_t hsp)
-- BorderDeskModel.madeIn(II)Z
def kt_M_madeIn_69 (rt : Option wq_V → wq_W → Prop) (xt : Nat → wq_W → Prop) (K : Nat → wq_T) : wq_T := (wq_iconst (nI 0) (wq_istore 3 (K 71)))
def kh_M_madeIn_39 (rt : Option wq_V → wq_W → Prop) (xt : Nat → wq_W → Prop) (K : Nat → wq_T) : wq_T := (wq_iload 3 (wq_iconst (nI 16) (wq_f2 (fun x y => y ≤ x) (kt_M_madeIn_69 rt xt K) (wq_aload 0 (wq_get 9 33 (wq_iload 3 (wq_iconst (nI 0) (wq_zast (wq_aload 0 (wq_get 9 32 (wq_iload 3 (wq_aload 0 (wq_iload 3 (wq_call (wq_rv 9 ks_M_classOf) 2 0 0 0 0 (wq_xout 0 0 xt) (wq_iast (wq_iinc 3 (nI 1) (K 39)))))))))))))))))
def kt_M_madeIn_204 (rt : Option wq_V → wq_W → Prop) (xt : Nat → wq_W → Prop) (K : Nat → wq_T) : wq_T := (wq_aload 0 (wq_get 9 34 (wq_iload 1 (wq_zald (wq_zreturn 0 0 rt)))))
def kh_M_madeIn_71 (rt : Option wq_V → wq_W → Prop) (xt : Nat → wq_W → Prop) (K : Nat → wq_T) : wq_T := (wq_iload 3 (wq_iconst (nI 16) (wq_f2 (fun x y => y ≤ x) (kt_M_madeIn_204 rt xt K) (wq_iconst (nI 0) (wq_istore 4 (K 80))))))
def kt_M_madeIn_198 (rt : Option wq_V → wq_W → Prop) (xt : Nat → wq_W → Prop) (K : Nat → wq_T) : wq_T := (wq_iinc 3 (nI 1) (K 71))
def kt_M_madeIn_102 (rt : Option wq_V → wq_W → Prop) (xt : Nat → wq_W → Prop) (K : Nat → wq_T) : wq_T := (wq_istore 5 (wq_iconst (nI 5) (wq_iload 4 (wq_i2 (fun x y => x * y) (wq_istore 6 (K 110))))))
def kt_M_madeIn_101 (rt : Option wq_V → wq_W → Prop) (xt : Nat → wq_W → Prop) (K : Nat → wq_T) : wq_T := (wq_iconst (nI 0) (kt_M_madeIn_102 rt xt K))
def kh_M_madeIn_80 (rt : Option wq_V → wq_W → Prop) (xt : Nat → wq_W → Prop) (K : Nat → wq_T) : wq_T := (wq_iload 4 (wq_iconst (nI 16) (wq_f2 (fun x y => y ≤ x) (kt_M_madeIn_198 rt xt K) (wq_aload 0 (wq_get 9 33 (wq_iload 4 (wq_zald (wq_f1 (fun x => x = 0) (wq_iconst (nI 1) (kt_M_madeIn_102 rt xt K)) (kt_M_madeIn_101 rt xt K)))))))))
def kt_M_madeIn_192 (rt : Option wq_V → wq_W → Prop) (xt : Nat → wq_W → Prop) (K : Nat → wq_T) : wq_T := (wq_iinc 4 (nI 1) (K 80))
def kt_M_madeIn_160 (rt : Option wq_V → wq_W → Prop) (xt : Nat → wq_W → Prop) (K : Nat → wq_T) : wq_T := (wq_iload 5 (wq_f1 (fun x => x = 0) (kt_M_madeIn_192 rt xt K) (wq_aload 0 (wq_get 9 34 (wq_iload 4 (wq_aload 0 (wq_iload 4 (wq_aload 0 (wq_get 9 31 (wq_iload 2 (wq_iald (wq_call (wq_rv 9 ks_M_isMade) 3 0 0 0 0 (wq_xout 0 0 xt) (wq_zast (wq_aload 0 (wq_get 9 33 (wq_iload 4 (wq_iconst (nI 1) (wq_zast (kt_M_madeIn_192 rt xt K)))))))))))))))))))
def kt_M_madeIn_152 (rt : Option wq_V → wq_W → Prop) (xt : Nat → wq_W → Prop) (K : Nat → wq_T) : wq_T := (wq_istore 5 (wq_iinc 6 (nI 1) (K 110)))
def kt_M_madeIn_151 (rt : Option wq_V → wq_W → Prop) (xt : Nat → wq_W → Prop) (K : Nat → wq_T) : wq_T := (wq_iconst (nI 0) (kt_M_madeIn_152 rt xt K))
def kh_M_madeIn_110 (rt : Option wq_V → wq_W → Prop) (xt : Nat → wq_W → Prop) (K : Nat → wq_T) : wq_T := (wq_iload 6 (wq_iconst (nI 5) (wq_iload 4 (wq_i2 (fun x y => x * y) (wq_aload 0 (wq_get 9 27 (wq_iload 4 (wq_iald (wq_i2 (fun x y => x + y) (wq_f2 (fun x y => y ≤ x) (kt_M_madeIn_160 rt xt K) (wq_iload 5 (wq_f1 (fun x => x = 0) (kt_M_madeIn_151 rt xt K) (wq_aload 0 (wq_get 9 33 (wq_aload 0 (wq_get 9 28 (wq_iload 6 (wq_iald (wq_zald (wq_f1 (fun x => x = 0) (kt_M_madeIn_151 rt xt K) (wq_iconst (nI 1) (kt_M_madeIn_152 rt xt K))))))))))))))))))))))
def kt_M_madeIn_37 (rt : Option wq_V → wq_W → Prop) (xt : Nat → wq_W → Prop) (K : Nat → wq_T) : wq_T := (wq_iconst (nI 0) (wq_istore 3 (K 39)))
def kt_M_madeIn_25 (rt : Option wq_V → wq_W → Prop) (xt : Nat → wq_W → Prop) (K : Nat → wq_T) : wq_T := (wq_put 9 0 wq_isI (wq_aload 0 (wq_get 9 0 (wq_f1 (fun x => x ≤ 0) (kt_M_madeIn_37 rt xt K) (wq_iconst (nI 0) (wq_zreturn 0 0 rt))))))
def kt_M_madeIn_24 (rt : Option wq_V → wq_W → Prop) (xt : Nat → wq_W → Prop) (K : Nat → wq_T) : wq_T := (wq_iconst (nI 1) (kt_M_madeIn_25 rt xt K))
def kt_M_madeIn_0 (rt : Option wq_V → wq_W → Prop) (xt : Nat → wq_W → Prop) (K : Nat → wq_T) : wq_T := (wq_aload 0 (wq_iload 1 (wq_iconst (nI 0) (wq_iconst (nI 15) (wq_call ks_M_within 3 0 0 0 0 (wq_xout 0 0 xt) (wq_f1 (fun x => x = 0) (kt_M_madeIn_24 rt xt K) (wq_iload 2 (wq_iconst (nI 0) (wq_iconst (nI 3) (wq_call ks_M_within 3 0 0 0 0 (wq_xout 0 0 xt) (wq_f1 (fun x => x = 0) (kt_M_madeIn_24 rt xt K) (wq_iconst (nI 0) (kt_M_madeIn_25 rt xt K)))))))))))))
def ku_M_madeIn (rt : Option wq_V → wq_W → Prop) (xt : Nat → wq_W → Prop) : Nat → Nat → wq_T
  | 0, _ => fun _ _ _ _ _ => False
  | n + 1, pc => cond (Nat.beq pc 39) (kh_M_madeIn_39 rt xt (ku_M_madeIn rt xt n)) (cond (Nat.beq pc 71) (kh_M_madeIn_71 rt xt (ku_M_madeIn rt xt n)) (cond (Nat.beq pc 80) (kh_M_madeIn_80 rt xt (ku_M_madeIn rt xt n)) (cond (Nat.beq pc 110) (kh_M_madeIn_110 rt xt (ku_M_madeIn rt xt n)) (fun _ _ _ _ _ => False))))
def ks_M_madeIn : wq_S := wq_sp 7 (fun rt xt => kt_M_madeIn_0 rt xt (ku_M_madeIn rt xt 700))
set_option maxRecDepth 100000 in
set_option maxHeartbeats 4000000 in
theorem kv_M_madeIn {l : Launch} (hl : l.stackTraces = false) : wq_Vld l kz_cl ky_M_madeIn kw_T ({ frames := 2, cells := 0, slots := 0, locals := 49 }) wq_G0 ks_M_madeIn 0 0 := by
  refine wq_method (cc := kc_M_madeIn) (maxL := 7) (ret := (some .boolean)) (by decide) kw_1283 (fun _ _ => rfl) wq_sp_sz ?_
  intro p e s m args below meth c cs D ad as w rt xt hF hnt hsp
  obtain ⟨h0, hr, hts, hown, hlk, hnm, hml, hK, hZ, hN, hA⟩ := hF
  have hown : s.vm.findClass "BorderDeskModel" = some m.cls := hown
  obtain ⟨A, hAe⟩ : ∃ A, A = wq_A ad w s.heap.size := ⟨_, rfl⟩
  rw [← hAe] at hZ hA ⊢
  have hall : ∀ K : Nat → wq_T, (∀ pc, pc ∈ [39, 71, 80, 110] → wq_Snd p l e ({ frames := 2, cells := 0, slots := 0, locals := 49 } : Room) s m args below meth c 7 cs D kz_cl A (wq_G0 ad w) (wq_Q cs D kz_cl A (wq_G0 ad w) rt xt below s 0 0) pc (K pc)) → (∀ pc, pc ∈ [39, 71, 80, 110] → wq_Snd p l e ({ frames := 2, cells := 0, slots := 0, locals := 49 } : Room) s m args below meth c 7 cs D kz_cl A (wq_G0 ad w) (wq_Q cs D kz_cl A (wq_G0 ad w) rt xt below s 0 0) pc (cond (Nat.beq pc 39) (kh_M_madeIn_39 rt xt K) (cond (Nat.beq pc 71) (kh_M_madeIn_71 rt xt K) (cond (Nat.beq pc 80) (kh_M_madeIn_80 rt xt K) (cond (Nat.beq pc 110) (kh_M_madeIn_110 rt xt K) (fun _ _ _ _ _ => False)))))) ∧ wq_Snd p l e ({ frames := 2, cells := 0, slots := 0, locals := 49 } : Room) s m args below meth c 7 cs D kz_cl A (wq_G0 ad w) (wq_Q cs D kz_cl A (wq_G0 ad w) rt xt below s 0 0) 0 (kt_M_madeIn_0 rt xt K) := by
    intro K hKc
    have hb_69 : wq_Snd p l e ({ frames := 2, cells := 0, slots := 0, locals := 49 } : Room) s m args below meth c 7 cs D kz_cl A (wq_G0 ad w) (wq_Q cs D kz_cl A (wq_G0 ad w) rt xt below s 0 0) 69 (kt_M_madeIn_69 rt xt K) := by
      refine wq_iconst_ok h0 kd_M_madeIn_69 (by decide +kernel) ?_
      refine wq_istore_n_ok h0 kd_M_madeIn_70 rfl (Nat.le_of_ble_eq_true rfl) ?_
      exact hKc 71 (by decide)
    have hb_39 : wq_Snd p l e ({ frames := 2, cells := 0, slots := 0, locals := 49 } : Room) s m args below meth c 7 cs D kz_cl A (wq_G0 ad w) (wq_Q cs D kz_cl A (wq_G0 ad w) rt xt below s 0 0) 39 (kh_M_madeIn_39 rt xt K) := by
      refine wq_iload_n_ok h0 kd_M_madeIn_39 rfl ?_
      refine wq_bipush_ok h0 kd_M_madeIn_40 (by decide +kernel) ?_
      refine wq_icmp_ge_ok (tgt := 69) h0 kd_M_madeIn_42 (by decide) ?_ ?_
      · exact hb_69
      refine wq_aload_n_ok h0 kd_M_madeIn_45 rfl ?_
      refine wq_get_ok (wq_getOK h0 hts ki_M hown hK (ci := 9) rfl 33 (Nat.le_of_ble_eq_true rfl) kw_1015 rfl) kd_M_madeIn_46 ?_
      refine wq_iload_n_ok h0 kd_M_madeIn_49 rfl ?_
      refine wq_iconst_ok h0 kd_M_madeIn_50 (by decide +kernel) ?_
      refine wq_zast_ok h0 hK kd_M_madeIn_51 ?_
      refine wq_aload_n_ok h0 kd_M_madeIn_52 rfl ?_
      refine wq_get_ok (wq_getOK h0 hts ki_M hown hK (ci := 9) rfl 32 (Nat.le_of_ble_eq_true rfl) kw_1014 rfl) kd_M_madeIn_53 ?_
      refine wq_iload_n_ok h0 kd_M_madeIn_56 rfl ?_
      refine wq_aload_n_ok h0 kd_M_madeIn_57 rfl ?_
      refine wq_iload_n_ok h0 kd_M_madeIn_58 rfl ?_
      refine wq_call_ok hA (wq_runV (ci := 9) ⟨h0.1, h0.2, hml, hown, hts⟩ (kv_M_classOf hl) ⟨(wq_cB hts kw_G kw_1221 kw_10 kw_1218 ⟨by decide +kernel, by decide +kernel, by decide +kernel⟩ rfl rfl ⟨Nat.le_of_ble_eq_true rfl, Nat.le_of_ble_eq_true rfl⟩), hts _ kw_1220, hts _ kw_s30⟩ rfl rfl hK hZ hN hA kd_M_madeIn_59) (wq_xout_ok hnt hlk) ?_
      refine wq_iast_ok h0 hK kd_M_madeIn_62 ?_
      refine wq_iinc_ok h0 kd_M_madeIn_63 (by decide +kernel) (Nat.le_of_ble_eq_true rfl) ?_
      refine wq_goto_ok (tgt := 39) h0 kd_M_madeIn_66 (by decide) ?_
      exact hKc 39 (by decide)
    have hb_204 : wq_Snd p l e ({ frames := 2, cells := 0, slots := 0, locals := 49 } : Room) s m args below meth c 7 cs D kz_cl A (wq_G0 ad w) (wq_Q cs D kz_cl A (wq_G0 ad w) rt xt below s 0 0) 204 (kt_M_madeIn_204 rt xt K) := by
      refine wq_aload_n_ok h0 kd_M_madeIn_204 rfl ?_
      refine wq_get_ok (wq_getOK h0 hts ki_M hown hK (ci := 9) rfl 34 (Nat.le_of_ble_eq_true rfl) kw_1016 rfl) kd_M_madeIn_205 ?_
      refine wq_iload_n_ok h0 kd_M_madeIn_208 rfl ?_
      refine wq_zald_ok h0 hK kd_M_madeIn_209 ?_
      exact wq_zreturn_ok h0 hr hlk kd_M_madeIn_210
    have hb_71 : wq_Snd p l e ({ frames := 2, cells := 0, slots := 0, locals := 49 } : Room) s m args below meth c 7 cs D kz_cl A (wq_G0 ad w) (wq_Q cs D kz_cl A (wq_G0 ad w) rt xt below s 0 0) 71 (kh_M_madeIn_71 rt xt K) := by
      refine wq_iload_n_ok h0 kd_M_madeIn_71 rfl ?_
      refine wq_bipush_ok h0 kd_M_madeIn_72 (by decide +kernel) ?_
      refine wq_icmp_ge_ok (tgt := 204) h0 kd_M_madeIn_74 (by decide) ?_ ?_
      · exact hb_204
      refine wq_iconst_ok h0 kd_M_madeIn_77 (by decide +kernel) ?_
      refine wq_istore_ok h0 kd_M_madeIn_78 (Nat.le_of_ble_eq_true rfl) ?_
      exact hKc 80 (by decide)
    have hb_198 : wq_Snd p l e ({ frames := 2, cells := 0, slots := 0, locals := 49 } : Room) s m args below meth c 7 cs D kz_cl A (wq_G0 ad w) (wq_Q cs D kz_cl A (wq_G0 ad w) rt xt below s 0 0) 198 (kt_M_madeIn_198 rt xt K) := by
      refine wq_iinc_ok h0 kd_M_madeIn_198 (by decide +kernel) (Nat.le_of_ble_eq_true rfl) ?_
      refine wq_goto_ok (tgt := 71) h0 kd_M_madeIn_201 (by decide) ?_
      exact hKc 71 (by decide)
    have hb_102 : wq_Snd p l e ({ frames := 2, cells := 0, slots := 0, locals := 49 } : Room) s m args below meth c 7 cs D kz_cl A (wq_G0 ad w) (wq_Q cs D kz_cl A (wq_G0 ad w) rt xt below s 0 0) 102 (kt_M_madeIn_102 rt xt K) := by
      refine wq_istore_ok h0 kd_M_madeIn_102 (Nat.le_of_ble_eq_true rfl) ?_
      refine wq_iconst_ok h0 kd_M_madeIn_104 (by decide +kernel) ?_
      refine wq_iload_ok h0 kd_M_madeIn_105 ?_
      refine wq_imul_ok h0 kd_M_madeIn_107 ?_
      refine wq_istore_ok h0 kd_M_madeIn_108 (Nat.le_of_ble_eq_true rfl) ?_
      exact hKc 110 (by decide)
    have hb_101 : wq_Snd p l e ({ frames := 2, cells := 0, slots := 0, locals := 49 } : Room) s m args below meth c 7 cs D kz_cl A (wq_G0 ad w) (wq_Q cs D kz_cl A (wq_G0 ad w) rt xt below s 0 0) 101 (kt_M_madeIn_101 rt xt K) := by
      refine wq_iconst_ok h0 kd_M_madeIn_101 (by decide +kernel) ?_
      exact hb_102
    have hb_80 : wq_Snd p l e ({ frames := 2, cells := 0, slots := 0, locals := 49 } : Room) s m args below meth c 7 cs D kz_cl A (wq_G0 ad w) (wq_Q cs D kz_cl A (wq_G0 ad w) rt xt below s 0 0) 80 (kh_M_madeIn_80 rt xt K) := by
      refine wq_iload_ok h0 kd_M_madeIn_80 ?_
      refine wq_bipush_ok h0 kd_M_madeIn_82 (by decide +kernel) ?_
      refine wq_icmp_ge_ok (tgt := 198) h0 kd_M_madeIn_84 (by decide) ?_ ?_
      · exact hb_198
      refine wq_aload_n_ok h0 kd_M_madeIn_87 rfl ?_
      refine wq_get_ok (wq_getOK h0 hts ki_M hown hK (ci := 9) rfl 33 (Nat.le_of_ble_eq_true rfl) kw_1015 rfl) kd_M_madeIn_88 ?_
      refine wq_iload_ok h0 kd_M_madeIn_91 ?_
      refine wq_zald_ok h0 hK kd_M_madeIn_93 ?_
      refine wq_if_ne_ok (tgt := 101) h0 kd_M_madeIn_94 (by decide) ?_ ?_
      · exact hb_101
      refine wq_iconst_ok h0 kd_M_madeIn_97 (by decide +kernel) ?_
      refine wq_goto_ok (tgt := 102) h0 kd_M_madeIn_98 (by decide) ?_
      exact hb_102
    have hb_192 : wq_Snd p l e ({ frames := 2, cells := 0, slots := 0, locals := 49 } : Room) s m args below meth c 7 cs D kz_cl A (wq_G0 ad w) (wq_Q cs D kz_cl A (wq_G0 ad w) rt xt below s 0 0) 192 (kt_M_madeIn_192 rt xt K) := by
      refine wq_iinc_ok h0 kd_M_madeIn_192 (by decide +kernel) (Nat.le_of_ble_eq_true rfl) ?_
      refine wq_goto_ok (tgt := 80) h0 kd_M_madeIn_195 (by decide) ?_
      exact hKc 80 (by decide)
    have hb_160 : wq_Snd p l e ({ frames := 2, cells := 0, slots := 0, locals := 49 } : Room) s m args below meth c 7 cs D kz_cl A (wq_G0 ad w) (wq_Q cs D kz_cl A (wq_G0 ad w) rt xt below s 0 0) 160 (kt_M_madeIn_160 rt xt K) := by
      refine wq_iload_ok h0 kd_M_madeIn_160 ?_
      refine wq_if_eq_ok (tgt := 192) h0 kd_M_madeIn_162 (by decide) ?_ ?_
      · exact hb_192
      refine wq_aload_n_ok h0 kd_M_madeIn_165 rfl ?_
      refine wq_get_ok (wq_getOK h0 hts ki_M hown hK (ci := 9) rfl 34 (Nat.le_of_ble_eq_true rfl) kw_1016 rfl) kd_M_madeIn_166 ?_
      refine wq_iload_ok h0 kd_M_madeIn_169 ?_
      refine wq_aload_n_ok h0 kd_M_madeIn_171 rfl ?_
      refine wq_iload_ok h0 kd_M_madeIn_172 ?_
      refine wq_aload_n_ok h0 kd_M_madeIn_174 rfl ?_
      refine wq_get_ok (wq_getOK h0 hts ki_M hown hK (ci := 9) rfl 31 (Nat.le_of_ble_eq_true rfl) kw_1013 rfl) kd_M_madeIn_175 ?_
      refine wq_iload_n_ok h0 kd_M_madeIn_178 rfl ?_
      refine wq_iald_ok h0 hK kd_M_madeIn_179 ?_
      refine wq_call_ok hA (wq_runV (ci := 9) ⟨h0.1, h0.2, hml, hown, hts⟩ (kv_M_isMade hl) ⟨(wq_cB hts kw_G kw_1287 kw_10 kw_1284 ⟨by decide +kernel, by decide +kernel, by decide +kernel⟩ rfl rfl ⟨Nat.le_of_ble_eq_true rfl, Nat.le_of_ble_eq_true rfl⟩), hts _ kw_1286, hts _ kw_s38⟩ rfl rfl hK hZ hN hA kd_M_madeIn_180) (wq_xout_ok hnt hlk) ?_
      refine wq_zast_ok h0 hK kd_M_madeIn_183 ?_
      refine wq_aload_n_ok h0 kd_M_madeIn_184 rfl ?_
      refine wq_get_ok (wq_getOK h0 hts ki_M hown hK (ci := 9) rfl 33 (Nat.le_of_ble_eq_true rfl) kw_1015 rfl) kd_M_madeIn_185 ?_
      refine wq_iload_ok h0 kd_M_madeIn_188 ?_
      refine wq_iconst_ok h0 kd_M_madeIn_190 (by decide +kernel) ?_
      refine wq_zast_ok h0 hK kd_M_madeIn_191 ?_
      exact hb_192
    have hb_152 : wq_Snd p l e ({ frames := 2, cells := 0, slots := 0, locals := 49 } : Room) s m args below meth c 7 cs D kz_cl A (wq_G0 ad w) (wq_Q cs D kz_cl A (wq_G0 ad w) rt xt below s 0 0) 152 (kt_M_madeIn_152 rt xt K) := by
      refine wq_istore_ok h0 kd_M_madeIn_152 (Nat.le_of_ble_eq_true rfl) ?_
      refine wq_iinc_ok h0 kd_M_madeIn_154 (by decide +kernel) (Nat.le_of_ble_eq_true rfl) ?_
      refine wq_goto_ok (tgt := 110) h0 kd_M_madeIn_157 (by decide) ?_
      exact hKc 110 (by decide)
    have hb_151 : wq_Snd p l e ({ frames := 2, cells := 0, slots := 0, locals := 49 } : Room) s m args below meth c 7 cs D kz_cl A (wq_G0 ad w) (wq_Q cs D kz_cl A (wq_G0 ad w) rt xt below s 0 0) 151 (kt_M_madeIn_151 rt xt K) := by
      refine wq_iconst_ok h0 kd_M_madeIn_151 (by decide +kernel) ?_
      exact hb_152
    have hb_110 : wq_Snd p l e ({ frames := 2, cells := 0, slots := 0, locals := 49 } : Room) s m args below meth c 7 cs D kz_cl A (wq_G0 ad w) (wq_Q cs D kz_cl A (wq_G0 ad w) rt xt below s 0 0) 110 (kh_M_madeIn_110 rt xt K) := by
      refine wq_iload_ok h0 kd_M_madeIn_110 ?_
      refine wq_iconst_ok h0 kd_M_madeIn_112 (by decide +kernel) ?_
      refine wq_iload_ok h0 kd_M_madeIn_113 ?_
      refine wq_imul_ok h0 kd_M_madeIn_115 ?_
      refine wq_aload_n_ok h0 kd_M_madeIn_116 rfl ?_
      refine wq_get_ok (wq_getOK h0 hts ki_M hown hK (ci := 9) rfl 27 (Nat.le_of_ble_eq_true rfl) kw_1009 rfl) kd_M_madeIn_117 ?_
      refine wq_iload_ok h0 kd_M_madeIn_120 ?_
      refine wq_iald_ok h0 hK kd_M_madeIn_122 ?_
      refine wq_iadd_ok h0 kd_M_madeIn_123 ?_
      refine wq_icmp_ge_ok (tgt := 160) h0 kd_M_madeIn_124 (by decide) ?_ ?_
      · exact hb_160
      refine wq_iload_ok h0 kd_M_madeIn_127 ?_
      refine wq_if_eq_ok (tgt := 151) h0 kd_M_madeIn_129 (by decide) ?_ ?_
      · exact hb_151
      refine wq_aload_n_ok h0 kd_M_madeIn_132 rfl ?_
      refine wq_get_ok (wq_getOK h0 hts ki_M hown hK (ci := 9) rfl 33 (Nat.le_of_ble_eq_true rfl) kw_1015 rfl) kd_M_madeIn_133 ?_
      refine wq_aload_n_ok h0 kd_M_madeIn_136 rfl ?_
      refine wq_get_ok (wq_getOK h0 hts ki_M hown hK (ci := 9) rfl 28 (Nat.le_of_ble_eq_true rfl) kw_1010 rfl) kd_M_madeIn_137 ?_
      refine wq_iload_ok h0 kd_M_madeIn_140 ?_
      refine wq_iald_ok h0 hK kd_M_madeIn_142 ?_
      refine wq_zald_ok h0 hK kd_M_madeIn_143 ?_
      refine wq_if_eq_ok (tgt := 151) h0 kd_M_madeIn_144 (by decide) ?_ ?_
      · exact hb_151
      refine wq_iconst_ok h0 kd_M_madeIn_147 (by decide +kernel) ?_
      refine wq_goto_ok (tgt := 152) h0 kd_M_madeIn_148 (by decide) ?_
      exact hb_152
    have hb_37 : wq_Snd p l e ({ frames := 2, cells := 0, slots := 0, locals := 49 } : Room) s m args below meth c 7 cs D kz_cl A (wq_G0 ad w) (wq_Q cs D kz_cl A (wq_G0 ad w) rt xt below s 0 0) 37 (kt_M_madeIn_37 rt xt K) := by
      refine wq_iconst_ok h0 kd_M_madeIn_37 (by decide +kernel) ?_
      refine wq_istore_n_ok h0 kd_M_madeIn_38 rfl (Nat.le_of_ble_eq_true rfl) ?_
      exact hKc 39 (by decide)
    have hb_25 : wq_Snd p l e ({ frames := 2, cells := 0, slots := 0, locals := 49 } : Room) s m args below meth c 7 cs D kz_cl A (wq_G0 ad w) (wq_Q cs D kz_cl A (wq_G0 ad w) rt xt below s 0 0) 25 (kt_M_madeIn_25 rt xt K) := by
      refine wq_put_ok (wq_putOK h0 hts ki_M ka_M kb_M kn_M hown hK (ci := 9) rfl 0 (Nat.le_of_ble_eq_true rfl) kw_982 rfl (Or.inl rfl) wq_okI) kd_M_madeIn_25 ?_
      refine wq_aload_n_ok h0 kd_M_madeIn_28 rfl ?_
      refine wq_get_ok (wq_getOK h0 hts ki_M hown hK (ci := 9) rfl 0 (Nat.le_of_ble_eq_true rfl) kw_982 rfl) kd_M_madeIn_29 ?_
      refine wq_if_le_ok (tgt := 37) h0 kd_M_madeIn_32 (by decide) ?_ ?_
      · exact hb_37
      refine wq_iconst_ok h0 kd_M_madeIn_35 (by decide +kernel) ?_
      exact wq_zreturn_ok h0 hr hlk kd_M_madeIn_36
    have hb_24 : wq_Snd p l e ({ frames := 2, cells := 0, slots := 0, locals := 49 } : Room) s m args below meth c 7 cs D kz_cl A (wq_G0 ad w) (wq_Q cs D kz_cl A (wq_G0 ad w) rt xt below s 0 0) 24 (kt_M_madeIn_24 rt xt K) := by
      refine wq_iconst_ok h0 kd_M_madeIn_24 (by decide +kernel) ?_
      exact hb_25
    have hb_0 : wq_Snd p l e ({ frames := 2, cells := 0, slots := 0, locals := 49 } : Room) s m args below meth c 7 cs D kz_cl A (wq_G0 ad w) (wq_Q cs D kz_cl A (wq_G0 ad w) rt xt below s 0 0) 0 (kt_M_madeIn_0 rt xt K) := by
      refine wq_aload_n_ok h0 kd_M_madeIn_0 rfl ?_
      refine wq_iload_n_ok h0 kd_M_madeIn_1 rfl ?_
      refine wq_iconst_ok h0 kd_M_madeIn_2 (by decide +kernel) ?_
      refine wq_bipush_ok h0 kd_M_madeIn_3 (by decide +kernel) ?_
      refine wq_call_ok hA (wq_runS ⟨h0.1, h0.2, hml, hown, hts⟩ (kv_M_within hl) ⟨(wq_cB hts kw_G kw_1209 kw_10 kw_1207 ⟨by decide +kernel, by decide +kernel, by decide +kernel⟩ rfl rfl ⟨Nat.le_of_ble_eq_true rfl, Nat.le_of_ble_eq_true rfl⟩), hts _ kw_1208⟩ hK hZ hN hA kd_M_madeIn_5) (wq_xout_ok hnt hlk) ?_
      refine wq_if_eq_ok (tgt := 24) h0 kd_M_madeIn_8 (by decide) ?_ ?_
      · exact hb_24
      refine wq_iload_n_ok h0 kd_M_madeIn_11 rfl ?_
      refine wq_iconst_ok h0 kd_M_madeIn_12 (by decide +kernel) ?_
      refine wq_iconst_ok h0 kd_M_madeIn_13 (by decide +kernel) ?_
      refine wq_call_ok hA (wq_runS ⟨h0.1, h0.2, hml, hown, hts⟩ (kv_M_within hl) ⟨(wq_cB hts kw_G kw_1209 kw_10 kw_1207 ⟨by decide +kernel, by decide +kernel, by decide +kernel⟩ rfl rfl ⟨Nat.le_of_ble_eq_true rfl, Nat.le_of_ble_eq_true rfl⟩), hts _ kw_1208⟩ hK hZ hN hA kd_M_madeIn_14) (wq_xout_ok hnt hlk) ?_
      refine wq_if_eq_ok (tgt := 24) h0 kd_M_madeIn_17 (by decide) ?_ ?_
      · exact hb_24
      refine wq_iconst_ok h0 kd_M_madeIn_20 (by decide +kernel) ?_
      refine wq_goto_ok (tgt := 25) h0 kd_M_madeIn_21 (by decide) ?_
      exact hb_25
    refine ⟨?_, hb_0⟩
    exact List.forall_mem_cons.mpr ⟨hb_39, List.forall_mem_cons.mpr ⟨hb_71, List.forall_mem_cons.mpr ⟨hb_80, List.forall_mem_cons.mpr ⟨hb_110, fun _ h => absurd h List.not_mem_nil⟩⟩⟩⟩
  have hun : ∀ (n pc : Nat), pc ∈ [39, 71, 80, 110] → wq_Snd p l e ({ frames := 2, cells := 0, slots := 0, locals := 49 } : Room) s m args below meth c 7 cs D kz_cl A (wq_G0 ad w) (wq_Q cs D kz_cl A (wq_G0 ad w) rt xt below s 0 0) pc (ku_M_madeIn rt xt n pc) := by
    intro n
    induction n with
    | zero => intro pc _ L S w9 n1 n2 h; exact h.elim
    | succ n ih => intro pc hpc; exact (hall (ku_M_madeIn rt xt n) ih).1 pc hpc
  exact (hall (ku_M_madeIn rt xt 700) (hun 700)).2 _ _ _ _ _ (wq_sp_t hsp)
-- BorderDeskModel.isDeclaration(I)Z
def kt_M_isDeclaration_17 (rt : Option wq_V → wq_W → Prop) (xt : Nat → wq_W → Prop) : wq_T := (wq_zreturn 0 0 rt)
def kt_M_isDeclaration_16 (rt : Option wq_V → wq_W → Prop) (xt : Nat → wq_W → Prop) : wq_T := (wq_iconst (nI 0) (kt_M_isDeclaration_17 rt xt))
def kt_M_isDeclaration_0 (rt : Option wq_V → wq_W → Prop) (xt : Nat → wq_W → Prop) : wq_T := (wq_iload 1 (wq_f1 (fun x => x < 0) (kt_M_isDeclaration_16 rt xt) (wq_iload 1 (wq_aload 0 (wq_get 9 35 (wq_f2 (fun x y => y ≤ x) (kt_M_isDeclaration_16 rt xt) (wq_iconst (nI 1) (kt_M_isDeclaration_17 rt xt))))))))
def ks_M_isDeclaration : wq_S := wq_sp 2 (fun rt xt => kt_M_isDeclaration_0 rt xt)
set_option maxRecDepth 100000 in
set_option maxHeartbeats 4000000 in
theorem kv_M_isDeclaration {l : Launch} (hl : l.stackTraces = false) : wq_Vld l kz_cl ky_M_isDeclaration kw_T ({ frames := 0, cells := 0, slots := 0, locals := 0 }) wq_G0 ks_M_isDeclaration 0 0 := by
  refine wq_method (cc := kc_M_isDeclaration) (maxL := 2) (ret := (some .boolean)) (by decide) kw_1300 (fun _ _ => rfl) wq_sp_sz ?_
  intro p e s m args below meth c cs D ad as w rt xt hF hnt hsp
  obtain ⟨h0, hr, hts, hown, hlk, hnm, hml, hK, hZ, hN, hA⟩ := hF
  have hown : s.vm.findClass "BorderDeskModel" = some m.cls := hown
  obtain ⟨A, hAe⟩ : ∃ A, A = wq_A ad w s.heap.size := ⟨_, rfl⟩
  rw [← hAe] at hZ hA ⊢
  have hb_17 : wq_Snd p l e ({ frames := 0, cells := 0, slots := 0, locals := 0 } : Room) s m args below meth c 2 cs D kz_cl A (wq_G0 ad w) (wq_Q cs D kz_cl A (wq_G0 ad w) rt xt below s 0 0) 17 (kt_M_isDeclaration_17 rt xt) := by
    exact wq_zreturn_ok h0 hr hlk kd_M_isDeclaration_17
  have hb_16 : wq_Snd p l e ({ frames := 0, cells := 0, slots := 0, locals := 0 } : Room) s m args below meth c 2 cs D kz_cl A (wq_G0 ad w) (wq_Q cs D kz_cl A (wq_G0 ad w) rt xt below s 0 0) 16 (kt_M_isDeclaration_16 rt xt) := by
    refine wq_iconst_ok h0 kd_M_isDeclaration_16 (by decide +kernel) ?_
    exact hb_17
  have hb_0 : wq_Snd p l e ({ frames := 0, cells := 0, slots := 0, locals := 0 } : Room) s m args below meth c 2 cs D kz_cl A (wq_G0 ad w) (wq_Q cs D kz_cl A (wq_G0 ad w) rt xt below s 0 0) 0 (kt_M_isDeclaration_0 rt xt) := by
    refine wq_iload_n_ok h0 kd_M_isDeclaration_0 rfl ?_
    refine wq_if_lt_ok (tgt := 16) h0 kd_M_isDeclaration_1 (by decide) ?_ ?_
    · exact hb_16
    refine wq_iload_n_ok h0 kd_M_isDeclaration_4 rfl ?_
    refine wq_aload_n_ok h0 kd_M_isDeclaration_5 rfl ?_
    refine wq_get_ok (wq_getOK h0 hts ki_M hown hK (ci := 9) rfl 35 (Nat.le_of_ble_eq_true rfl) kw_1017 rfl) kd_M_isDeclaration_6 ?_
    refine wq_icmp_ge_ok (tgt := 16) h0 kd_M_isDeclaration_9 (by decide) ?_ ?_
    · exact hb_16
    refine wq_iconst_ok h0 kd_M_isDeclaration_12 (by decide +kernel) ?_
    refine wq_goto_ok (tgt := 17) h0 kd_M_isDeclaration_13 (by decide) ?_
    exact hb_17
  exact hb_0 _ _ _ _ _ (wq_sp_t hsp)
-- BorderDeskModel.isLine(II)Z
def kt_M_isLine_27 (rt : Option wq_V → wq_W → Prop) (xt : Nat → wq_W → Prop) : wq_T := (wq_zreturn 0 0 rt)
def kt_M_isLine_26 (rt : Option wq_V → wq_W → Prop) (xt : Nat → wq_W → Prop) : wq_T := (wq_iconst (nI 0) (kt_M_isLine_27 rt xt))
def kt_M_isLine_0 (rt : Option wq_V → wq_W → Prop) (xt : Nat → wq_W → Prop) : wq_T := (wq_aload 0 (wq_iload 1 (wq_call (wq_rv 9 ks_M_isDeclaration) 2 0 0 0 0 (wq_xout 0 0 xt) (wq_f1 (fun x => x = 0) (kt_M_isLine_26 rt xt) (wq_iload 2 (wq_f1 (fun x => x < 0) (kt_M_isLine_26 rt xt) (wq_iload 2 (wq_aload 0 (wq_get 9 38 (wq_iload 1 (wq_iald (wq_f2 (fun x y => y ≤ x) (kt_M_isLine_26 rt xt) (wq_iconst (nI 1) (kt_M_isLine_27 rt xt))))))))))))))
def ks_M_isLine : wq_S := wq_sp 3 (fun rt xt => kt_M_isLine_0 rt xt)
set_option maxRecDepth 100000 in
set_option maxHeartbeats 4000000 in
theorem kv_M_isLine {l : Launch} (hl : l.stackTraces = false) : wq_Vld l kz_cl ky_M_isLine kw_T ({ frames := 1, cells := 0, slots := 0, locals := 21 }) wq_G0 ks_M_isLine 0 0 := by
  refine wq_method (cc := kc_M_isLine) (maxL := 3) (ret := (some .boolean)) (by decide) kw_1317 (fun _ _ => rfl) wq_sp_sz ?_
  intro p e s m args below meth c cs D ad as w rt xt hF hnt hsp
  obtain ⟨h0, hr, hts, hown, hlk, hnm, hml, hK, hZ, hN, hA⟩ := hF
  have hown : s.vm.findClass "BorderDeskModel" = some m.cls := hown
  obtain ⟨A, hAe⟩ : ∃ A, A = wq_A ad w s.heap.size := ⟨_, rfl⟩
  rw [← hAe] at hZ hA ⊢
  have hb_27 : wq_Snd p l e ({ frames := 1, cells := 0, slots := 0, locals := 21 } : Room) s m args below meth c 3 cs D kz_cl A (wq_G0 ad w) (wq_Q cs D kz_cl A (wq_G0 ad w) rt xt below s 0 0) 27 (kt_M_isLine_27 rt xt) := by
    exact wq_zreturn_ok h0 hr hlk kd_M_isLine_27
  have hb_26 : wq_Snd p l e ({ frames := 1, cells := 0, slots := 0, locals := 21 } : Room) s m args below meth c 3 cs D kz_cl A (wq_G0 ad w) (wq_Q cs D kz_cl A (wq_G0 ad w) rt xt below s 0 0) 26 (kt_M_isLine_26 rt xt) := by
    refine wq_iconst_ok h0 kd_M_isLine_26 (by decide +kernel) ?_
    exact hb_27
  have hb_0 : wq_Snd p l e ({ frames := 1, cells := 0, slots := 0, locals := 21 } : Room) s m args below meth c 3 cs D kz_cl A (wq_G0 ad w) (wq_Q cs D kz_cl A (wq_G0 ad w) rt xt below s 0 0) 0 (kt_M_isLine_0 rt xt) := by
    refine wq_aload_n_ok h0 kd_M_isLine_0 rfl ?_
    refine wq_iload_n_ok h0 kd_M_isLine_1 rfl ?_
    refine wq_call_ok hA (wq_runV (ci := 9) ⟨h0.1, h0.2, hml, hown, hts⟩ (kv_M_isDeclaration hl) ⟨(wq_cB hts kw_G kw_1300 kw_10 kw_1297 ⟨by decide +kernel, by decide +kernel, by decide +kernel⟩ rfl rfl ⟨Nat.le_of_ble_eq_true rfl, Nat.le_of_ble_eq_true rfl⟩), hts _ kw_1299, hts _ kw_s39⟩ rfl rfl hK hZ hN hA kd_M_isLine_2) (wq_xout_ok hnt hlk) ?_
    refine wq_if_eq_ok (tgt := 26) h0 kd_M_isLine_5 (by decide) ?_ ?_
    · exact hb_26
    refine wq_iload_n_ok h0 kd_M_isLine_8 rfl ?_
    refine wq_if_lt_ok (tgt := 26) h0 kd_M_isLine_9 (by decide) ?_ ?_
    · exact hb_26
    refine wq_iload_n_ok h0 kd_M_isLine_12 rfl ?_
    refine wq_aload_n_ok h0 kd_M_isLine_13 rfl ?_
    refine wq_get_ok (wq_getOK h0 hts ki_M hown hK (ci := 9) rfl 38 (Nat.le_of_ble_eq_true rfl) kw_1020 rfl) kd_M_isLine_14 ?_
    refine wq_iload_n_ok h0 kd_M_isLine_17 rfl ?_
    refine wq_iald_ok h0 hK kd_M_isLine_18 ?_
    refine wq_icmp_ge_ok (tgt := 26) h0 kd_M_isLine_19 (by decide) ?_ ?_
    · exact hb_26
    refine wq_iconst_ok h0 kd_M_isLine_22 (by decide +kernel) ?_
    refine wq_goto_ok (tgt := 27) h0 kd_M_isLine_23 (by decide) ?_
    exact hb_27
  exact hb_0 _ _ _ _ _ (wq_sp_t hsp)
-- BorderDeskModel.declare(II)I
def kt_M_declare_53 (rt : Option wq_V → wq_W → Prop) (xt : Nat → wq_W → Prop) : wq_T := (wq_aload 0 (wq_get 9 36 (wq_aload 0 (wq_get 9 35 (wq_iload 1 (wq_iast (wq_aload 0 (wq_get 9 37 (wq_aload 0 (wq_get 9 35 (wq_iload 2 (wq_iast (wq_aload 0 (wq_dup (wq_get 9 35 (wq_iconst (nI 1) (wq_i2 (fun x y => x + y) (wq_put 9 35 wq_isI (wq_aload 0 (wq_get 9 35 (wq_iconst (nI 1) (wq_i2 (fun x y => x - y) (wq_ireturn 0 0 rt)))))))))))))))))))))))
def kt_M_declare_41 (rt : Option wq_V → wq_W → Prop) (xt : Nat → wq_W → Prop) : wq_T := (wq_put 9 0 wq_isI (wq_aload 0 (wq_get 9 0 (wq_f1 (fun x => x ≤ 0) (kt_M_declare_53 rt xt) (wq_iconst (nI 0) (wq_ireturn 0 0 rt))))))
def kt_M_declare_23 (rt : Option wq_V → wq_W → Prop) (xt : Nat → wq_W → Prop) : wq_T := (wq_iconst (nI 1) (kt_M_declare_41 rt xt))
def kt_M_declare_40 (rt : Option wq_V → wq_W → Prop) (xt : Nat → wq_W → Prop) : wq_T := (wq_iconst (nI 0) (kt_M_declare_41 rt xt))
def kt_M_declare_27 (rt : Option wq_V → wq_W → Prop) (xt : Nat → wq_W → Prop) : wq_T := (wq_aload 0 (wq_get 9 35 (wq_iconst (nI 12) (wq_f2 (fun x y => x = y) (wq_iconst (nI 2) (kt_M_declare_41 rt xt)) (kt_M_declare_40 rt xt)))))
def kt_M_declare_0 (rt : Option wq_V → wq_W → Prop) (xt : Nat → wq_W → Prop) : wq_T := (wq_aload 0 (wq_iload 1 (wq_iconst (nI 0) (wq_iconst (nI 9999) (wq_call ks_M_within 3 0 0 0 0 (wq_xout 0 0 xt) (wq_f1 (fun x => x = 0) (kt_M_declare_23 rt xt) (wq_iload 2 (wq_iconst (nI 0) (wq_iconst (nI 1439) (wq_call ks_M_within 3 0 0 0 0 (wq_xout 0 0 xt) (wq_f1 (fun x => x = 0) (kt_M_declare_23 rt xt) (kt_M_declare_27 rt xt))))))))))))
def ks_M_declare : wq_S := wq_sp 3 (fun rt xt => kt_M_declare_0 rt xt)
set_option maxRecDepth 100000 in
set_option maxHeartbeats 4000000 in
theorem kv_M_declare {l : Launch} (hl : l.stackTraces = false) : wq_Vld l kz_cl ky_M_declare kw_T ({ frames := 1, cells := 0, slots := 0, locals := 22 }) wq_G0 ks_M_declare 0 0 := by
  refine wq_method (cc := kc_M_declare) (maxL := 3) (ret := (some .int)) (by decide) kw_1292 (fun _ _ => rfl) wq_sp_sz ?_
  intro p e s m args below meth c cs D ad as w rt xt hF hnt hsp
  obtain ⟨h0, hr, hts, hown, hlk, hnm, hml, hK, hZ, hN, hA⟩ := hF
  have hown : s.vm.findClass "BorderDeskModel" = some m.cls := hown
  obtain ⟨A, hAe⟩ : ∃ A, A = wq_A ad w s.heap.size := ⟨_, rfl⟩
  rw [← hAe] at hZ hA ⊢
  have hb_53 : wq_Snd p l e ({ frames := 1, cells := 0, slots := 0, locals := 22 } : Room) s m args below meth c 3 cs D kz_cl A (wq_G0 ad w) (wq_Q cs D kz_cl A (wq_G0 ad w) rt xt below s 0 0) 53 (kt_M_declare_53 rt xt) := by
    refine wq_aload_n_ok h0 kd_M_declare_53 rfl ?_
    refine wq_get_ok (wq_getOK h0 hts ki_M hown hK (ci := 9) rfl 36 (Nat.le_of_ble_eq_true rfl) kw_1018 rfl) kd_M_declare_54 ?_
    refine wq_aload_n_ok h0 kd_M_declare_57 rfl ?_
    refine wq_get_ok (wq_getOK h0 hts ki_M hown hK (ci := 9) rfl 35 (Nat.le_of_ble_eq_true rfl) kw_1017 rfl) kd_M_declare_58 ?_
    refine wq_iload_n_ok h0 kd_M_declare_61 rfl ?_
    refine wq_iast_ok h0 hK kd_M_declare_62 ?_
    refine wq_aload_n_ok h0 kd_M_declare_63 rfl ?_
    refine wq_get_ok (wq_getOK h0 hts ki_M hown hK (ci := 9) rfl 37 (Nat.le_of_ble_eq_true rfl) kw_1019 rfl) kd_M_declare_64 ?_
    refine wq_aload_n_ok h0 kd_M_declare_67 rfl ?_
    refine wq_get_ok (wq_getOK h0 hts ki_M hown hK (ci := 9) rfl 35 (Nat.le_of_ble_eq_true rfl) kw_1017 rfl) kd_M_declare_68 ?_
    refine wq_iload_n_ok h0 kd_M_declare_71 rfl ?_
    refine wq_iast_ok h0 hK kd_M_declare_72 ?_
    refine wq_aload_n_ok h0 kd_M_declare_73 rfl ?_
    refine wq_dup_ok h0 kd_M_declare_74 ?_
    refine wq_get_ok (wq_getOK h0 hts ki_M hown hK (ci := 9) rfl 35 (Nat.le_of_ble_eq_true rfl) kw_1017 rfl) kd_M_declare_75 ?_
    refine wq_iconst_ok h0 kd_M_declare_78 (by decide +kernel) ?_
    refine wq_iadd_ok h0 kd_M_declare_79 ?_
    refine wq_put_ok (wq_putOK h0 hts ki_M ka_M kb_M kn_M hown hK (ci := 9) rfl 35 (Nat.le_of_ble_eq_true rfl) kw_1017 rfl (Or.inl rfl) wq_okI) kd_M_declare_80 ?_
    refine wq_aload_n_ok h0 kd_M_declare_83 rfl ?_
    refine wq_get_ok (wq_getOK h0 hts ki_M hown hK (ci := 9) rfl 35 (Nat.le_of_ble_eq_true rfl) kw_1017 rfl) kd_M_declare_84 ?_
    refine wq_iconst_ok h0 kd_M_declare_87 (by decide +kernel) ?_
    refine wq_isub_ok h0 kd_M_declare_88 ?_
    exact wq_ireturn_ok h0 hr hlk kd_M_declare_89
  have hb_41 : wq_Snd p l e ({ frames := 1, cells := 0, slots := 0, locals := 22 } : Room) s m args below meth c 3 cs D kz_cl A (wq_G0 ad w) (wq_Q cs D kz_cl A (wq_G0 ad w) rt xt below s 0 0) 41 (kt_M_declare_41 rt xt) := by
    refine wq_put_ok (wq_putOK h0 hts ki_M ka_M kb_M kn_M hown hK (ci := 9) rfl 0 (Nat.le_of_ble_eq_true rfl) kw_982 rfl (Or.inl rfl) wq_okI) kd_M_declare_41 ?_
    refine wq_aload_n_ok h0 kd_M_declare_44 rfl ?_
    refine wq_get_ok (wq_getOK h0 hts ki_M hown hK (ci := 9) rfl 0 (Nat.le_of_ble_eq_true rfl) kw_982 rfl) kd_M_declare_45 ?_
    refine wq_if_le_ok (tgt := 53) h0 kd_M_declare_48 (by decide) ?_ ?_
    · exact hb_53
    refine wq_iconst_ok h0 kd_M_declare_51 (by decide +kernel) ?_
    exact wq_ireturn_ok h0 hr hlk kd_M_declare_52
  have hb_23 : wq_Snd p l e ({ frames := 1, cells := 0, slots := 0, locals := 22 } : Room) s m args below meth c 3 cs D kz_cl A (wq_G0 ad w) (wq_Q cs D kz_cl A (wq_G0 ad w) rt xt below s 0 0) 23 (kt_M_declare_23 rt xt) := by
    refine wq_iconst_ok h0 kd_M_declare_23 (by decide +kernel) ?_
    refine wq_goto_ok (tgt := 41) h0 kd_M_declare_24 (by decide) ?_
    exact hb_41
  have hb_40 : wq_Snd p l e ({ frames := 1, cells := 0, slots := 0, locals := 22 } : Room) s m args below meth c 3 cs D kz_cl A (wq_G0 ad w) (wq_Q cs D kz_cl A (wq_G0 ad w) rt xt below s 0 0) 40 (kt_M_declare_40 rt xt) := by
    refine wq_iconst_ok h0 kd_M_declare_40 (by decide +kernel) ?_
    exact hb_41
  have hb_27 : wq_Snd p l e ({ frames := 1, cells := 0, slots := 0, locals := 22 } : Room) s m args below meth c 3 cs D kz_cl A (wq_G0 ad w) (wq_Q cs D kz_cl A (wq_G0 ad w) rt xt below s 0 0) 27 (kt_M_declare_27 rt xt) := by
    refine wq_aload_n_ok h0 kd_M_declare_27 rfl ?_
    refine wq_get_ok (wq_getOK h0 hts ki_M hown hK (ci := 9) rfl 35 (Nat.le_of_ble_eq_true rfl) kw_1017 rfl) kd_M_declare_28 ?_
    refine wq_bipush_ok h0 kd_M_declare_31 (by decide +kernel) ?_
    refine wq_icmp_ne_ok (tgt := 40) h0 kd_M_declare_33 (by decide) ?_ ?_
    · exact hb_40
    refine wq_iconst_ok h0 kd_M_declare_36 (by decide +kernel) ?_
    refine wq_goto_ok (tgt := 41) h0 kd_M_declare_37 (by decide) ?_
    exact hb_41
  have hb_0 : wq_Snd p l e ({ frames := 1, cells := 0, slots := 0, locals := 22 } : Room) s m args below meth c 3 cs D kz_cl A (wq_G0 ad w) (wq_Q cs D kz_cl A (wq_G0 ad w) rt xt below s 0 0) 0 (kt_M_declare_0 rt xt) := by
    refine wq_aload_n_ok h0 kd_M_declare_0 rfl ?_
    refine wq_iload_n_ok h0 kd_M_declare_1 rfl ?_
    refine wq_iconst_ok h0 kd_M_declare_2 (by decide +kernel) ?_
    refine wq_sipush_ok h0 kd_M_declare_3 (by decide +kernel) ?_
    refine wq_call_ok hA (wq_runS ⟨h0.1, h0.2, hml, hown, hts⟩ (kv_M_within hl) ⟨(wq_cB hts kw_G kw_1209 kw_10 kw_1207 ⟨by decide +kernel, by decide +kernel, by decide +kernel⟩ rfl rfl ⟨Nat.le_of_ble_eq_true rfl, Nat.le_of_ble_eq_true rfl⟩), hts _ kw_1208⟩ hK hZ hN hA kd_M_declare_6) (wq_xout_ok hnt hlk) ?_
    refine wq_if_eq_ok (tgt := 23) h0 kd_M_declare_9 (by decide) ?_ ?_
    · exact hb_23
    refine wq_iload_n_ok h0 kd_M_declare_12 rfl ?_
    refine wq_iconst_ok h0 kd_M_declare_13 (by decide +kernel) ?_
    refine wq_sipush_ok h0 kd_M_declare_14 (by decide +kernel) ?_
    refine wq_call_ok hA (wq_runS ⟨h0.1, h0.2, hml, hown, hts⟩ (kv_M_within hl) ⟨(wq_cB hts kw_G kw_1209 kw_10 kw_1207 ⟨by decide +kernel, by decide +kernel, by decide +kernel⟩ rfl rfl ⟨Nat.le_of_ble_eq_true rfl, Nat.le_of_ble_eq_true rfl⟩), hts _ kw_1208⟩ hK hZ hN hA kd_M_declare_17) (wq_xout_ok hnt hlk) ?_
    refine wq_if_ne_ok (tgt := 27) h0 kd_M_declare_20 (by decide) ?_ ?_
    · exact hb_27
    exact hb_23
  exact hb_0 _ _ _ _ _ (wq_sp_t hsp)
-- BorderDeskModel.isField(II)Z
def kt_M_isField_50 (rt : Option wq_V → wq_W → Prop) (xt : Nat → wq_W → Prop) : wq_T := (wq_zreturn 0 0 rt)
def kt_M_isField_49 (rt : Option wq_V → wq_W → Prop) (xt : Nat → wq_W → Prop) : wq_T := (wq_iconst (nI 0) (kt_M_isField_50 rt xt))
def kt_M_isField_42 (rt : Option wq_V → wq_W → Prop) (xt : Nat → wq_W → Prop) : wq_T := (wq_f2 (fun x y => y < x) (kt_M_isField_49 rt xt) (wq_iconst (nI 1) (kt_M_isField_50 rt xt)))
def kt_M_isField_39 (rt : Option wq_V → wq_W → Prop) (xt : Nat → wq_W → Prop) : wq_T := (wq_iconst (100000000) (kt_M_isField_42 rt xt))
def kt_M_isField_24 (rt : Option wq_V → wq_W → Prop) (xt : Nat → wq_W → Prop) : wq_T := (wq_iload 1 (wq_f1 (fun x => x < 0) (kt_M_isField_49 rt xt) (wq_iload 1 (wq_iload 0 (wq_iconst (nI 1) (wq_f2 (fun x y => x = y) (wq_iconst (1000000) (kt_M_isField_42 rt xt)) (kt_M_isField_39 rt xt)))))))
def kt_M_isField_20 (rt : Option wq_V → wq_W → Prop) (xt : Nat → wq_W → Prop) : wq_T := (wq_iconst (nI 0) (kt_M_isField_50 rt xt))
def kt_M_isField_0 (rt : Option wq_V → wq_W → Prop) (xt : Nat → wq_W → Prop) : wq_T := (wq_iload 0 (wq_f1 (fun x => x = 0) (wq_iload 1 (wq_iconst (nI 1) (wq_f2 (fun x y => x < y) (kt_M_isField_20 rt xt) (wq_iload 1 (wq_iconst (nI 1000) (wq_f2 (fun x y => y < x) (kt_M_isField_20 rt xt) (wq_iconst (nI 1) (kt_M_isField_50 rt xt)))))))) (kt_M_isField_24 rt xt)))
def ks_M_isField : wq_S := wq_sp 2 (fun rt xt => kt_M_isField_0 rt xt)
set_option maxRecDepth 100000 in
set_option maxHeartbeats 4000000 in
theorem kv_M_isField {l : Launch} (hl : l.stackTraces = false) : wq_Vld l kz_cl ky_M_isField kw_T ({ frames := 0, cells := 0, slots := 0, locals := 0 }) wq_G0 ks_M_isField 0 0 := by
  refine wq_method (cc := kc_M_isField) (maxL := 2) (ret := (some .boolean)) (by decide) kw_1303 (fun _ _ => rfl) wq_sp_sz ?_
  intro p e s m args below meth c cs D ad as w rt xt hF hnt hsp
  obtain ⟨h0, hr, hts, hown, hlk, hnm, hml, hK, hZ, hN, hA⟩ := hF
  have hown : s.vm.findClass "BorderDeskModel" = some m.cls := hown
  obtain ⟨A, hAe⟩ : ∃ A, A = wq_A ad w s.heap.size := ⟨_, rfl⟩
  rw [← hAe] at hZ hA ⊢
  have hb_50 : wq_Snd p l e ({ frames := 0, cells := 0, slots := 0, locals := 0 } : Room) s m args below meth c 2 cs D kz_cl A (wq_G0 ad w) (wq_Q cs D kz_cl A (wq_G0 ad w) rt xt below s 0 0) 50 (kt_M_isField_50 rt xt) := by
    exact wq_zreturn_ok h0 hr hlk kd_M_isField_50
  have hb_49 : wq_Snd p l e ({ frames := 0, cells := 0, slots := 0, locals := 0 } : Room) s m args below meth c 2 cs D kz_cl A (wq_G0 ad w) (wq_Q cs D kz_cl A (wq_G0 ad w) rt xt below s 0 0) 49 (kt_M_isField_49 rt xt) := by
    refine wq_iconst_ok h0 kd_M_isField_49 (by decide +kernel) ?_
    exact hb_50
  have hb_42 : wq_Snd p l e ({ frames := 0, cells := 0, slots := 0, locals := 0 } : Room) s m args below meth c 2 cs D kz_cl A (wq_G0 ad w) (wq_Q cs D kz_cl A (wq_G0 ad w) rt xt below s 0 0) 42 (kt_M_isField_42 rt xt) := by
    refine wq_icmp_gt_ok (tgt := 49) h0 kd_M_isField_42 (by decide) ?_ ?_
    · exact hb_49
    refine wq_iconst_ok h0 kd_M_isField_45 (by decide +kernel) ?_
    refine wq_goto_ok (tgt := 50) h0 kd_M_isField_46 (by decide) ?_
    exact hb_50
  have hb_39 : wq_Snd p l e ({ frames := 0, cells := 0, slots := 0, locals := 0 } : Room) s m args below meth c 2 cs D kz_cl A (wq_G0 ad w) (wq_Q cs D kz_cl A (wq_G0 ad w) rt xt below s 0 0) 39 (kt_M_isField_39 rt xt) := by
    refine wq_ldcw_ok (v := 100000000) h0 hown (hts _ kw_1304) kd_M_isField_39 ?_
    exact hb_42
  have hb_24 : wq_Snd p l e ({ frames := 0, cells := 0, slots := 0, locals := 0 } : Room) s m args below meth c 2 cs D kz_cl A (wq_G0 ad w) (wq_Q cs D kz_cl A (wq_G0 ad w) rt xt below s 0 0) 24 (kt_M_isField_24 rt xt) := by
    refine wq_iload_n_ok h0 kd_M_isField_24 rfl ?_
    refine wq_if_lt_ok (tgt := 49) h0 kd_M_isField_25 (by decide) ?_ ?_
    · exact hb_49
    refine wq_iload_n_ok h0 kd_M_isField_28 rfl ?_
    refine wq_iload_n_ok h0 kd_M_isField_29 rfl ?_
    refine wq_iconst_ok h0 kd_M_isField_30 (by decide +kernel) ?_
    refine wq_icmp_ne_ok (tgt := 39) h0 kd_M_isField_31 (by decide) ?_ ?_
    · exact hb_39
    refine wq_ldc_ok (v := 1000000) h0 hown (hts _ kw_1267) kd_M_isField_34 ?_
    refine wq_goto_ok (tgt := 42) h0 kd_M_isField_36 (by decide) ?_
    exact hb_42
  have hb_20 : wq_Snd p l e ({ frames := 0, cells := 0, slots := 0, locals := 0 } : Room) s m args below meth c 2 cs D kz_cl A (wq_G0 ad w) (wq_Q cs D kz_cl A (wq_G0 ad w) rt xt below s 0 0) 20 (kt_M_isField_20 rt xt) := by
    refine wq_iconst_ok h0 kd_M_isField_20 (by decide +kernel) ?_
    refine wq_goto_ok (tgt := 50) h0 kd_M_isField_21 (by decide) ?_
    exact hb_50
  have hb_0 : wq_Snd p l e ({ frames := 0, cells := 0, slots := 0, locals := 0 } : Room) s m args below meth c 2 cs D kz_cl A (wq_G0 ad w) (wq_Q cs D kz_cl A (wq_G0 ad w) rt xt below s 0 0) 0 (kt_M_isField_0 rt xt) := by
    refine wq_iload_n_ok h0 kd_M_isField_0 rfl ?_
    refine wq_if_ne_ok (tgt := 24) h0 kd_M_isField_1 (by decide) ?_ ?_
    · exact hb_24
    refine wq_iload_n_ok h0 kd_M_isField_4 rfl ?_
    refine wq_iconst_ok h0 kd_M_isField_5 (by decide +kernel) ?_
    refine wq_icmp_lt_ok (tgt := 20) h0 kd_M_isField_6 (by decide) ?_ ?_
    · exact hb_20
    refine wq_iload_n_ok h0 kd_M_isField_9 rfl ?_
    refine wq_sipush_ok h0 kd_M_isField_10 (by decide +kernel) ?_
    refine wq_icmp_gt_ok (tgt := 20) h0 kd_M_isField_13 (by decide) ?_ ?_
    · exact hb_20
    refine wq_iconst_ok h0 kd_M_isField_16 (by decide +kernel) ?_
    refine wq_goto_ok (tgt := 50) h0 kd_M_isField_17 (by decide) ?_
    exact hb_50
  exact hb_0 _ _ _ _ _ (wq_sp_t hsp)
-- BorderDeskModel.line(IIIIIIZ)I
def kt_M_line_108 (rt : Option wq_V → wq_W → Prop) (xt : Nat → wq_W → Prop) : wq_T := (wq_iconst (nI 4) (wq_iload 1 (wq_i2 (fun x y => x * y) (wq_aload 0 (wq_get 9 38 (wq_iload 1 (wq_iald (wq_i2 (fun x y => x + y) (wq_istore 9 (wq_aload 0 (wq_get 9 42 (wq_iload 9 (wq_iload 2 (wq_iast (wq_aload 0 (wq_get 9 43 (wq_iload 9 (wq_iload 3 (wq_iast (wq_aload 0 (wq_get 9 44 (wq_iload 9 (wq_iload 7 (wq_zast (wq_aload 0 (wq_get 9 45 (wq_iconst (nI 3) (wq_iload 9 (wq_i2 (fun x y => x * y) (wq_iload 4 (wq_iast (wq_aload 0 (wq_get 9 45 (wq_iconst (nI 3) (wq_iload 9 (wq_i2 (fun x y => x * y) (wq_iconst (nI 1) (wq_i2 (fun x y => x + y) (wq_iload 5 (wq_iast (wq_aload 0 (wq_get 9 45 (wq_iconst (nI 3) (wq_iload 9 (wq_i2 (fun x y => x * y) (wq_iconst (nI 2) (wq_i2 (fun x y => x + y) (wq_iload 6 (wq_iast (wq_aload 0 (wq_get 9 38 (wq_iload 1 (wq_dup2 (wq_iald (wq_iconst (nI 1) (wq_i2 (fun x y => x + y) (wq_iast (wq_aload 0 (wq_get 9 38 (wq_iload 1 (wq_iald (wq_iconst (nI 1) (wq_i2 (fun x y => x - y) (wq_ireturn 0 0 rt))))))))))))))))))))))))))))))))))))))))))))))))))))))))))))))))
def kt_M_line_96 (rt : Option wq_V → wq_W → Prop) (xt : Nat → wq_W → Prop) : wq_T := (wq_put 9 0 wq_isI (wq_aload 0 (wq_get 9 0 (wq_f1 (fun x => x ≤ 0) (kt_M_line_108 rt xt) (wq_iconst (nI 0) (wq_ireturn 0 0 rt))))))
def kt_M_line_91 (rt : Option wq_V → wq_W → Prop) (xt : Nat → wq_W → Prop) : wq_T := (wq_iconst (nI 2) (kt_M_line_96 rt xt))
def kt_M_line_95 (rt : Option wq_V → wq_W → Prop) (xt : Nat → wq_W → Prop) : wq_T := (wq_iconst (nI 0) (kt_M_line_96 rt xt))
def kt_M_line_72 (rt : Option wq_V → wq_W → Prop) (xt : Nat → wq_W → Prop) : wq_T := (wq_aload 0 (wq_get 9 40 (wq_iload 1 (wq_zald (wq_f1 (fun x => x = 0) (wq_aload 0 (wq_get 9 38 (wq_iload 1 (wq_iald (wq_iconst (nI 4) (wq_f2 (fun x y => x = y) (kt_M_line_91 rt xt) (kt_M_line_95 rt xt))))))) (kt_M_line_91 rt xt))))))
def kt_M_line_60 (rt : Option wq_V → wq_W → Prop) (xt : Nat → wq_W → Prop) : wq_T := (wq_istore 8 (wq_aload 0 (wq_iload 8 (wq_f1 (fun x => x = 0) (wq_iconst (nI 1) (kt_M_line_96 rt xt)) (kt_M_line_72 rt xt)))))
def kt_M_line_59 (rt : Option wq_V → wq_W → Prop) (xt : Nat → wq_W → Prop) : wq_T := (wq_iconst (nI 0) (kt_M_line_60 rt xt))
def kt_M_line_0 (rt : Option wq_V → wq_W → Prop) (xt : Nat → wq_W → Prop) : wq_T := (wq_aload 0 (wq_iload 1 (wq_call (wq_rv 9 ks_M_isDeclaration) 2 0 0 0 0 (wq_xout 0 0 xt) (wq_f1 (fun x => x = 0) (kt_M_line_59 rt xt) (wq_iload 2 (wq_iconst (nI 0) (wq_iconst (nI 15) (wq_call ks_M_within 3 0 0 0 0 (wq_xout 0 0 xt) (wq_f1 (fun x => x = 0) (kt_M_line_59 rt xt) (wq_iload 3 (wq_iconst (nI 0) (wq_iconst (nI 7) (wq_call ks_M_within 3 0 0 0 0 (wq_xout 0 0 xt) (wq_f1 (fun x => x = 0) (kt_M_line_59 rt xt) (wq_iconst (nI 0) (wq_iload 4 (wq_call ks_M_isField 2 0 0 0 0 (wq_xout 0 0 xt) (wq_f1 (fun x => x = 0) (kt_M_line_59 rt xt) (wq_iconst (nI 1) (wq_iload 5 (wq_call ks_M_isField 2 0 0 0 0 (wq_xout 0 0 xt) (wq_f1 (fun x => x = 0) (kt_M_line_59 rt xt) (wq_iconst (nI 2) (wq_iload 6 (wq_call ks_M_isField 2 0 0 0 0 (wq_xout 0 0 xt) (wq_f1 (fun x => x = 0) (kt_M_line_59 rt xt) (wq_iconst (nI 1) (kt_M_line_60 rt xt))))))))))))))))))))))))))))
def ks_M_line : wq_S := wq_sp 10 (fun rt xt => kt_M_line_0 rt xt)
set_option maxRecDepth 100000 in
set_option maxHeartbeats 4000000 in
theorem kv_M_line {l : Launch} (hl : l.stackTraces = false) : wq_Vld l kz_cl ky_M_line kw_T ({ frames := 1, cells := 0, slots := 0, locals := 22 }) wq_G0 ks_M_line 0 0 := by
  refine wq_method (cc := kc_M_line) (maxL := 10) (ret := (some .int)) (by decide) kw_1296 (fun _ _ => rfl) wq_sp_sz ?_
  intro p e s m args below meth c cs D ad as w rt xt hF hnt hsp
  obtain ⟨h0, hr, hts, hown, hlk, hnm, hml, hK, hZ, hN, hA⟩ := hF
  have hown : s.vm.findClass "BorderDeskModel" = some m.cls := hown
  obtain ⟨A, hAe⟩ : ∃ A, A = wq_A ad w s.heap.size := ⟨_, rfl⟩
  rw [← hAe] at hZ hA ⊢
  have hb_108 : wq_Snd p l e ({ frames := 1, cells := 0, slots := 0, locals := 22 } : Room) s m args below meth c 10 cs D kz_cl A (wq_G0 ad w) (wq_Q cs D kz_cl A (wq_G0 ad w) rt xt below s 0 0) 108 (kt_M_line_108 rt xt) := by
    refine wq_iconst_ok h0 kd_M_line_108 (by decide +kernel) ?_
    refine wq_iload_n_ok h0 kd_M_line_109 rfl ?_
    refine wq_imul_ok h0 kd_M_line_110 ?_
    refine wq_aload_n_ok h0 kd_M_line_111 rfl ?_
    refine wq_get_ok (wq_getOK h0 hts ki_M hown hK (ci := 9) rfl 38 (Nat.le_of_ble_eq_true rfl) kw_1020 rfl) kd_M_line_112 ?_
    refine wq_iload_n_ok h0 kd_M_line_115 rfl ?_
    refine wq_iald_ok h0 hK kd_M_line_116 ?_
    refine wq_iadd_ok h0 kd_M_line_117 ?_
    refine wq_istore_ok h0 kd_M_line_118 (Nat.le_of_ble_eq_true rfl) ?_
    refine wq_aload_n_ok h0 kd_M_line_120 rfl ?_
    refine wq_get_ok (wq_getOK h0 hts ki_M hown hK (ci := 9) rfl 42 (Nat.le_of_ble_eq_true rfl) kw_1024 rfl) kd_M_line_121 ?_
    refine wq_iload_ok h0 kd_M_line_124 ?_
    refine wq_iload_n_ok h0 kd_M_line_126 rfl ?_
    refine wq_iast_ok h0 hK kd_M_line_127 ?_
    refine wq_aload_n_ok h0 kd_M_line_128 rfl ?_
    refine wq_get_ok (wq_getOK h0 hts ki_M hown hK (ci := 9) rfl 43 (Nat.le_of_ble_eq_true rfl) kw_1025 rfl) kd_M_line_129 ?_
    refine wq_iload_ok h0 kd_M_line_132 ?_
    refine wq_iload_n_ok h0 kd_M_line_134 rfl ?_
    refine wq_iast_ok h0 hK kd_M_line_135 ?_
    refine wq_aload_n_ok h0 kd_M_line_136 rfl ?_
    refine wq_get_ok (wq_getOK h0 hts ki_M hown hK (ci := 9) rfl 44 (Nat.le_of_ble_eq_true rfl) kw_1026 rfl) kd_M_line_137 ?_
    refine wq_iload_ok h0 kd_M_line_140 ?_
    refine wq_iload_ok h0 kd_M_line_142 ?_
    refine wq_zast_ok h0 hK kd_M_line_144 ?_
    refine wq_aload_n_ok h0 kd_M_line_145 rfl ?_
    refine wq_get_ok (wq_getOK h0 hts ki_M hown hK (ci := 9) rfl 45 (Nat.le_of_ble_eq_true rfl) kw_1027 rfl) kd_M_line_146 ?_
    refine wq_iconst_ok h0 kd_M_line_149 (by decide +kernel) ?_
    refine wq_iload_ok h0 kd_M_line_150 ?_
    refine wq_imul_ok h0 kd_M_line_152 ?_
    refine wq_iload_ok h0 kd_M_line_153 ?_
    refine wq_iast_ok h0 hK kd_M_line_155 ?_
    refine wq_aload_n_ok h0 kd_M_line_156 rfl ?_
    refine wq_get_ok (wq_getOK h0 hts ki_M hown hK (ci := 9) rfl 45 (Nat.le_of_ble_eq_true rfl) kw_1027 rfl) kd_M_line_157 ?_
    refine wq_iconst_ok h0 kd_M_line_160 (by decide +kernel) ?_
    refine wq_iload_ok h0 kd_M_line_161 ?_
    refine wq_imul_ok h0 kd_M_line_163 ?_
    refine wq_iconst_ok h0 kd_M_line_164 (by decide +kernel) ?_
    refine wq_iadd_ok h0 kd_M_line_165 ?_
    refine wq_iload_ok h0 kd_M_line_166 ?_
    refine wq_iast_ok h0 hK kd_M_line_168 ?_
    refine wq_aload_n_ok h0 kd_M_line_169 rfl ?_
    refine wq_get_ok (wq_getOK h0 hts ki_M hown hK (ci := 9) rfl 45 (Nat.le_of_ble_eq_true rfl) kw_1027 rfl) kd_M_line_170 ?_
    refine wq_iconst_ok h0 kd_M_line_173 (by decide +kernel) ?_
    refine wq_iload_ok h0 kd_M_line_174 ?_
    refine wq_imul_ok h0 kd_M_line_176 ?_
    refine wq_iconst_ok h0 kd_M_line_177 (by decide +kernel) ?_
    refine wq_iadd_ok h0 kd_M_line_178 ?_
    refine wq_iload_ok h0 kd_M_line_179 ?_
    refine wq_iast_ok h0 hK kd_M_line_181 ?_
    refine wq_aload_n_ok h0 kd_M_line_182 rfl ?_
    refine wq_get_ok (wq_getOK h0 hts ki_M hown hK (ci := 9) rfl 38 (Nat.le_of_ble_eq_true rfl) kw_1020 rfl) kd_M_line_183 ?_
    refine wq_iload_n_ok h0 kd_M_line_186 rfl ?_
    refine wq_dup2_ok h0 kd_M_line_187 ?_
    refine wq_iald_ok h0 hK kd_M_line_188 ?_
    refine wq_iconst_ok h0 kd_M_line_189 (by decide +kernel) ?_
    refine wq_iadd_ok h0 kd_M_line_190 ?_
    refine wq_iast_ok h0 hK kd_M_line_191 ?_
    refine wq_aload_n_ok h0 kd_M_line_192 rfl ?_
    refine wq_get_ok (wq_getOK h0 hts ki_M hown hK (ci := 9) rfl 38 (Nat.le_of_ble_eq_true rfl) kw_1020 rfl) kd_M_line_193 ?_
    refine wq_iload_n_ok h0 kd_M_line_196 rfl ?_
    refine wq_iald_ok h0 hK kd_M_line_197 ?_
    refine wq_iconst_ok h0 kd_M_line_198 (by decide +kernel) ?_
    refine wq_isub_ok h0 kd_M_line_199 ?_
    exact wq_ireturn_ok h0 hr hlk kd_M_line_200
  have hb_96 : wq_Snd p l e ({ frames := 1, cells := 0, slots := 0, locals := 22 } : Room) s m args below meth c 10 cs D kz_cl A (wq_G0 ad w) (wq_Q cs D kz_cl A (wq_G0 ad w) rt xt below s 0 0) 96 (kt_M_line_96 rt xt) := by
    refine wq_put_ok (wq_putOK h0 hts ki_M ka_M kb_M kn_M hown hK (ci := 9) rfl 0 (Nat.le_of_ble_eq_true rfl) kw_982 rfl (Or.inl rfl) wq_okI) kd_M_line_96 ?_
    refine wq_aload_n_ok h0 kd_M_line_99 rfl ?_
    refine wq_get_ok (wq_getOK h0 hts ki_M hown hK (ci := 9) rfl 0 (Nat.le_of_ble_eq_true rfl) kw_982 rfl) kd_M_line_100 ?_
    refine wq_if_le_ok (tgt := 108) h0 kd_M_line_103 (by decide) ?_ ?_
    · exact hb_108
    refine wq_iconst_ok h0 kd_M_line_106 (by decide +kernel) ?_
    exact wq_ireturn_ok h0 hr hlk kd_M_line_107
  have hb_91 : wq_Snd p l e ({ frames := 1, cells := 0, slots := 0, locals := 22 } : Room) s m args below meth c 10 cs D kz_cl A (wq_G0 ad w) (wq_Q cs D kz_cl A (wq_G0 ad w) rt xt below s 0 0) 91 (kt_M_line_91 rt xt) := by
    refine wq_iconst_ok h0 kd_M_line_91 (by decide +kernel) ?_
    refine wq_goto_ok (tgt := 96) h0 kd_M_line_92 (by decide) ?_
    exact hb_96
  have hb_95 : wq_Snd p l e ({ frames := 1, cells := 0, slots := 0, locals := 22 } : Room) s m args below meth c 10 cs D kz_cl A (wq_G0 ad w) (wq_Q cs D kz_cl A (wq_G0 ad w) rt xt below s 0 0) 95 (kt_M_line_95 rt xt) := by
    refine wq_iconst_ok h0 kd_M_line_95 (by decide +kernel) ?_
    exact hb_96
  have hb_72 : wq_Snd p l e ({ frames := 1, cells := 0, slots := 0, locals := 22 } : Room) s m args below meth c 10 cs D kz_cl A (wq_G0 ad w) (wq_Q cs D kz_cl A (wq_G0 ad w) rt xt below s 0 0) 72 (kt_M_line_72 rt xt) := by
    refine wq_aload_n_ok h0 kd_M_line_72 rfl ?_
    refine wq_get_ok (wq_getOK h0 hts ki_M hown hK (ci := 9) rfl 40 (Nat.le_of_ble_eq_true rfl) kw_1022 rfl) kd_M_line_73 ?_
    refine wq_iload_n_ok h0 kd_M_line_76 rfl ?_
    refine wq_zald_ok h0 hK kd_M_line_77 ?_
    refine wq_if_ne_ok (tgt := 91) h0 kd_M_line_78 (by decide) ?_ ?_
    · exact hb_91
    refine wq_aload_n_ok h0 kd_M_line_81 rfl ?_
    refine wq_get_ok (wq_getOK h0 hts ki_M hown hK (ci := 9) rfl 38 (Nat.le_of_ble_eq_true rfl) kw_1020 rfl) kd_M_line_82 ?_
    refine wq_iload_n_ok h0 kd_M_line_85 rfl ?_
    refine wq_iald_ok h0 hK kd_M_line_86 ?_
    refine wq_iconst_ok h0 kd_M_line_87 (by decide +kernel) ?_
    refine wq_icmp_ne_ok (tgt := 95) h0 kd_M_line_88 (by decide) ?_ ?_
    · exact hb_95
    exact hb_91
  have hb_60 : wq_Snd p l e ({ frames := 1, cells := 0, slots := 0, locals := 22 } : Room) s m args below meth c 10 cs D kz_cl A (wq_G0 ad w) (wq_Q cs D kz_cl A (wq_G0 ad w) rt xt below s 0 0) 60 (kt_M_line_60 rt xt) := by
    refine wq_istore_ok h0 kd_M_line_60 (Nat.le_of_ble_eq_true rfl) ?_
    refine wq_aload_n_ok h0 kd_M_line_62 rfl ?_
    refine wq_iload_ok h0 kd_M_line_63 ?_
    refine wq_if_ne_ok (tgt := 72) h0 kd_M_line_65 (by decide) ?_ ?_
    · exact hb_72
    refine wq_iconst_ok h0 kd_M_line_68 (by decide +kernel) ?_
    refine wq_goto_ok (tgt := 96) h0 kd_M_line_69 (by decide) ?_
    exact hb_96
  have hb_59 : wq_Snd p l e ({ frames := 1, cells := 0, slots := 0, locals := 22 } : Room) s m args below meth c 10 cs D kz_cl A (wq_G0 ad w) (wq_Q cs D kz_cl A (wq_G0 ad w) rt xt below s 0 0) 59 (kt_M_line_59 rt xt) := by
    refine wq_iconst_ok h0 kd_M_line_59 (by decide +kernel) ?_
    exact hb_60
  have hb_0 : wq_Snd p l e ({ frames := 1, cells := 0, slots := 0, locals := 22 } : Room) s m args below meth c 10 cs D kz_cl A (wq_G0 ad w) (wq_Q cs D kz_cl A (wq_G0 ad w) rt xt below s 0 0) 0 (kt_M_line_0 rt xt) := by
    refine wq_aload_n_ok h0 kd_M_line_0 rfl ?_
    refine wq_iload_n_ok h0 kd_M_line_1 rfl ?_
    refine wq_call_ok hA (wq_runV (ci := 9) ⟨h0.1, h0.2, hml, hown, hts⟩ (kv_M_isDeclaration hl) ⟨(wq_cB hts kw_G kw_1300 kw_10 kw_1297 ⟨by decide +kernel, by decide +kernel, by decide +kernel⟩ rfl rfl ⟨Nat.le_of_ble_eq_true rfl, Nat.le_of_ble_eq_true rfl⟩), hts _ kw_1299, hts _ kw_s39⟩ rfl rfl hK hZ hN hA kd_M_line_2) (wq_xout_ok hnt hlk) ?_
    refine wq_if_eq_ok (tgt := 59) h0 kd_M_line_5 (by decide) ?_ ?_
    · exact hb_59
    refine wq_iload_n_ok h0 kd_M_line_8 rfl ?_
    refine wq_iconst_ok h0 kd_M_line_9 (by decide +kernel) ?_
    refine wq_bipush_ok h0 kd_M_line_10 (by decide +kernel) ?_
    refine wq_call_ok hA (wq_runS ⟨h0.1, h0.2, hml, hown, hts⟩ (kv_M_within hl) ⟨(wq_cB hts kw_G kw_1209 kw_10 kw_1207 ⟨by decide +kernel, by decide +kernel, by decide +kernel⟩ rfl rfl ⟨Nat.le_of_ble_eq_true rfl, Nat.le_of_ble_eq_true rfl⟩), hts _ kw_1208⟩ hK hZ hN hA kd_M_line_12) (wq_xout_ok hnt hlk) ?_
    refine wq_if_eq_ok (tgt := 59) h0 kd_M_line_15 (by decide) ?_ ?_
    · exact hb_59
    refine wq_iload_n_ok h0 kd_M_line_18 rfl ?_
    refine wq_iconst_ok h0 kd_M_line_19 (by decide +kernel) ?_
    refine wq_bipush_ok h0 kd_M_line_20 (by decide +kernel) ?_
    refine wq_call_ok hA (wq_runS ⟨h0.1, h0.2, hml, hown, hts⟩ (kv_M_within hl) ⟨(wq_cB hts kw_G kw_1209 kw_10 kw_1207 ⟨by decide +kernel, by decide +kernel, by decide +kernel⟩ rfl rfl ⟨Nat.le_of_ble_eq_true rfl, Nat.le_of_ble_eq_true rfl⟩), hts _ kw_1208⟩ hK hZ hN hA kd_M_line_22) (wq_xout_ok hnt hlk) ?_
    refine wq_if_eq_ok (tgt := 59) h0 kd_M_line_25 (by decide) ?_ ?_
    · exact hb_59
    refine wq_iconst_ok h0 kd_M_line_28 (by decide +kernel) ?_
    refine wq_iload_ok h0 kd_M_line_29 ?_
    refine wq_call_ok hA (wq_runS ⟨h0.1, h0.2, hml, hown, hts⟩ (kv_M_isField hl) ⟨(wq_cB hts kw_G kw_1303 kw_10 kw_1301 ⟨by decide +kernel, by decide +kernel, by decide +kernel⟩ rfl rfl ⟨Nat.le_of_ble_eq_true rfl, Nat.le_of_ble_eq_true rfl⟩), hts _ kw_1302⟩ hK hZ hN hA kd_M_line_31) (wq_xout_ok hnt hlk) ?_
    refine wq_if_eq_ok (tgt := 59) h0 kd_M_line_34 (by decide) ?_ ?_
    · exact hb_59
    refine wq_iconst_ok h0 kd_M_line_37 (by decide +kernel) ?_
    refine wq_iload_ok h0 kd_M_line_38 ?_
    refine wq_call_ok hA (wq_runS ⟨h0.1, h0.2, hml, hown, hts⟩ (kv_M_isField hl) ⟨(wq_cB hts kw_G kw_1303 kw_10 kw_1301 ⟨by decide +kernel, by decide +kernel, by decide +kernel⟩ rfl rfl ⟨Nat.le_of_ble_eq_true rfl, Nat.le_of_ble_eq_true rfl⟩), hts _ kw_1302⟩ hK hZ hN hA kd_M_line_40) (wq_xout_ok hnt hlk) ?_
    refine wq_if_eq_ok (tgt := 59) h0 kd_M_line_43 (by decide) ?_ ?_
    · exact hb_59
    refine wq_iconst_ok h0 kd_M_line_46 (by decide +kernel) ?_
    refine wq_iload_ok h0 kd_M_line_47 ?_
    refine wq_call_ok hA (wq_runS ⟨h0.1, h0.2, hml, hown, hts⟩ (kv_M_isField hl) ⟨(wq_cB hts kw_G kw_1303 kw_10 kw_1301 ⟨by decide +kernel, by decide +kernel, by decide +kernel⟩ rfl rfl ⟨Nat.le_of_ble_eq_true rfl, Nat.le_of_ble_eq_true rfl⟩), hts _ kw_1302⟩ hK hZ hN hA kd_M_line_49) (wq_xout_ok hnt hlk) ?_
    refine wq_if_eq_ok (tgt := 59) h0 kd_M_line_52 (by decide) ?_ ?_
    · exact hb_59
    refine wq_iconst_ok h0 kd_M_line_55 (by decide +kernel) ?_
    refine wq_goto_ok (tgt := 60) h0 kd_M_line_56 (by decide) ?_
    exact hb_60
  exact hb_0 _ _ _ _ _ (wq_sp_t hsp)
-- BorderDeskModel.charge(III)V
def kt_M_charge_68 (rt : Option wq_V → wq_W → Prop) (xt : Nat → wq_W → Prop) : wq_T := (wq_vreturn 0 0 rt)
def kt_M_charge_47 (rt : Option wq_V → wq_W → Prop) (xt : Nat → wq_W → Prop) : wq_T := (wq_put 9 0 wq_isI (wq_aload 0 (wq_get 9 0 (wq_f1 (fun x => x = 0) (wq_aload 0 (wq_get 9 39 (wq_iconst (nI 2) (wq_iload 1 (wq_i2 (fun x y => x * y) (wq_iload 2 (wq_i2 (fun x y => x + y) (wq_iload 3 (wq_iast (kt_M_charge_68 rt xt)))))))))) (kt_M_charge_68 rt xt)))))
def kt_M_charge_29 (rt : Option wq_V → wq_W → Prop) (xt : Nat → wq_W → Prop) : wq_T := (wq_iconst (nI 1) (kt_M_charge_47 rt xt))
def kt_M_charge_46 (rt : Option wq_V → wq_W → Prop) (xt : Nat → wq_W → Prop) : wq_T := (wq_iconst (nI 0) (kt_M_charge_47 rt xt))
def kt_M_charge_33 (rt : Option wq_V → wq_W → Prop) (xt : Nat → wq_W → Prop) : wq_T := (wq_aload 0 (wq_get 9 40 (wq_iload 1 (wq_zald (wq_f1 (fun x => x = 0) (kt_M_charge_46 rt xt) (wq_iconst (nI 2) (kt_M_charge_47 rt xt)))))))
def kt_M_charge_0 (rt : Option wq_V → wq_W → Prop) (xt : Nat → wq_W → Prop) : wq_T := (wq_aload 0 (wq_aload 0 (wq_iload 1 (wq_call (wq_rv 9 ks_M_isDeclaration) 2 0 0 0 0 (wq_xout 0 0 xt) (wq_f1 (fun x => x = 0) (kt_M_charge_29 rt xt) (wq_iload 2 (wq_iconst (nI 0) (wq_iconst (nI 1) (wq_call ks_M_within 3 0 0 0 0 (wq_xout 0 0 xt) (wq_f1 (fun x => x = 0) (kt_M_charge_29 rt xt) (wq_iload 3 (wq_iconst (nI 0) (wq_iconst (10000000) (wq_call ks_M_within 3 0 0 0 0 (wq_xout 0 0 xt) (wq_f1 (fun x => x = 0) (kt_M_charge_29 rt xt) (kt_M_charge_33 rt xt))))))))))))))))
def ks_M_charge : wq_S := wq_sp 4 (fun rt xt => kt_M_charge_0 rt xt)
set_option maxRecDepth 100000 in
set_option maxHeartbeats 4000000 in
theorem kv_M_charge {l : Launch} (hl : l.stackTraces = false) : wq_Vld l kz_cl ky_M_charge kw_T ({ frames := 1, cells := 0, slots := 0, locals := 22 }) wq_G0 ks_M_charge 0 0 := by
  refine wq_method (cc := kc_M_charge) (maxL := 4) (ret := none) (by decide) kw_1308 (fun _ _ => rfl) wq_sp_sz ?_
  intro p e s m args below meth c cs D ad as w rt xt hF hnt hsp
  obtain ⟨h0, hr, hts, hown, hlk, hnm, hml, hK, hZ, hN, hA⟩ := hF
  have hown : s.vm.findClass "BorderDeskModel" = some m.cls := hown
  obtain ⟨A, hAe⟩ : ∃ A, A = wq_A ad w s.heap.size := ⟨_, rfl⟩
  rw [← hAe] at hZ hA ⊢
  have hb_68 : wq_Snd p l e ({ frames := 1, cells := 0, slots := 0, locals := 22 } : Room) s m args below meth c 4 cs D kz_cl A (wq_G0 ad w) (wq_Q cs D kz_cl A (wq_G0 ad w) rt xt below s 0 0) 68 (kt_M_charge_68 rt xt) := by
    exact wq_vreturn_ok h0 hr hlk kd_M_charge_68
  have hb_47 : wq_Snd p l e ({ frames := 1, cells := 0, slots := 0, locals := 22 } : Room) s m args below meth c 4 cs D kz_cl A (wq_G0 ad w) (wq_Q cs D kz_cl A (wq_G0 ad w) rt xt below s 0 0) 47 (kt_M_charge_47 rt xt) := by
    refine wq_put_ok (wq_putOK h0 hts ki_M ka_M kb_M kn_M hown hK (ci := 9) rfl 0 (Nat.le_of_ble_eq_true rfl) kw_982 rfl (Or.inl rfl) wq_okI) kd_M_charge_47 ?_
    refine wq_aload_n_ok h0 kd_M_charge_50 rfl ?_
    refine wq_get_ok (wq_getOK h0 hts ki_M hown hK (ci := 9) rfl 0 (Nat.le_of_ble_eq_true rfl) kw_982 rfl) kd_M_charge_51 ?_
    refine wq_if_ne_ok (tgt := 68) h0 kd_M_charge_54 (by decide) ?_ ?_
    · exact hb_68
    refine wq_aload_n_ok h0 kd_M_charge_57 rfl ?_
    refine wq_get_ok (wq_getOK h0 hts ki_M hown hK (ci := 9) rfl 39 (Nat.le_of_ble_eq_true rfl) kw_1021 rfl) kd_M_charge_58 ?_
    refine wq_iconst_ok h0 kd_M_charge_61 (by decide +kernel) ?_
    refine wq_iload_n_ok h0 kd_M_charge_62 rfl ?_
    refine wq_imul_ok h0 kd_M_charge_63 ?_
    refine wq_iload_n_ok h0 kd_M_charge_64 rfl ?_
    refine wq_iadd_ok h0 kd_M_charge_65 ?_
    refine wq_iload_n_ok h0 kd_M_charge_66 rfl ?_
    refine wq_iast_ok h0 hK kd_M_charge_67 ?_
    exact hb_68
  have hb_29 : wq_Snd p l e ({ frames := 1, cells := 0, slots := 0, locals := 22 } : Room) s m args below meth c 4 cs D kz_cl A (wq_G0 ad w) (wq_Q cs D kz_cl A (wq_G0 ad w) rt xt below s 0 0) 29 (kt_M_charge_29 rt xt) := by
    refine wq_iconst_ok h0 kd_M_charge_29 (by decide +kernel) ?_
    refine wq_goto_ok (tgt := 47) h0 kd_M_charge_30 (by decide) ?_
    exact hb_47
  have hb_46 : wq_Snd p l e ({ frames := 1, cells := 0, slots := 0, locals := 22 } : Room) s m args below meth c 4 cs D kz_cl A (wq_G0 ad w) (wq_Q cs D kz_cl A (wq_G0 ad w) rt xt below s 0 0) 46 (kt_M_charge_46 rt xt) := by
    refine wq_iconst_ok h0 kd_M_charge_46 (by decide +kernel) ?_
    exact hb_47
  have hb_33 : wq_Snd p l e ({ frames := 1, cells := 0, slots := 0, locals := 22 } : Room) s m args below meth c 4 cs D kz_cl A (wq_G0 ad w) (wq_Q cs D kz_cl A (wq_G0 ad w) rt xt below s 0 0) 33 (kt_M_charge_33 rt xt) := by
    refine wq_aload_n_ok h0 kd_M_charge_33 rfl ?_
    refine wq_get_ok (wq_getOK h0 hts ki_M hown hK (ci := 9) rfl 40 (Nat.le_of_ble_eq_true rfl) kw_1022 rfl) kd_M_charge_34 ?_
    refine wq_iload_n_ok h0 kd_M_charge_37 rfl ?_
    refine wq_zald_ok h0 hK kd_M_charge_38 ?_
    refine wq_if_eq_ok (tgt := 46) h0 kd_M_charge_39 (by decide) ?_ ?_
    · exact hb_46
    refine wq_iconst_ok h0 kd_M_charge_42 (by decide +kernel) ?_
    refine wq_goto_ok (tgt := 47) h0 kd_M_charge_43 (by decide) ?_
    exact hb_47
  have hb_0 : wq_Snd p l e ({ frames := 1, cells := 0, slots := 0, locals := 22 } : Room) s m args below meth c 4 cs D kz_cl A (wq_G0 ad w) (wq_Q cs D kz_cl A (wq_G0 ad w) rt xt below s 0 0) 0 (kt_M_charge_0 rt xt) := by
    refine wq_aload_n_ok h0 kd_M_charge_0 rfl ?_
    refine wq_aload_n_ok h0 kd_M_charge_1 rfl ?_
    refine wq_iload_n_ok h0 kd_M_charge_2 rfl ?_
    refine wq_call_ok hA (wq_runV (ci := 9) ⟨h0.1, h0.2, hml, hown, hts⟩ (kv_M_isDeclaration hl) ⟨(wq_cB hts kw_G kw_1300 kw_10 kw_1297 ⟨by decide +kernel, by decide +kernel, by decide +kernel⟩ rfl rfl ⟨Nat.le_of_ble_eq_true rfl, Nat.le_of_ble_eq_true rfl⟩), hts _ kw_1299, hts _ kw_s39⟩ rfl rfl hK hZ hN hA kd_M_charge_3) (wq_xout_ok hnt hlk) ?_
    refine wq_if_eq_ok (tgt := 29) h0 kd_M_charge_6 (by decide) ?_ ?_
    · exact hb_29
    refine wq_iload_n_ok h0 kd_M_charge_9 rfl ?_
    refine wq_iconst_ok h0 kd_M_charge_10 (by decide +kernel) ?_
    refine wq_iconst_ok h0 kd_M_charge_11 (by decide +kernel) ?_
    refine wq_call_ok hA (wq_runS ⟨h0.1, h0.2, hml, hown, hts⟩ (kv_M_within hl) ⟨(wq_cB hts kw_G kw_1209 kw_10 kw_1207 ⟨by decide +kernel, by decide +kernel, by decide +kernel⟩ rfl rfl ⟨Nat.le_of_ble_eq_true rfl, Nat.le_of_ble_eq_true rfl⟩), hts _ kw_1208⟩ hK hZ hN hA kd_M_charge_12) (wq_xout_ok hnt hlk) ?_
    refine wq_if_eq_ok (tgt := 29) h0 kd_M_charge_15 (by decide) ?_ ?_
    · exact hb_29
    refine wq_iload_n_ok h0 kd_M_charge_18 rfl ?_
    refine wq_iconst_ok h0 kd_M_charge_19 (by decide +kernel) ?_
    refine wq_ldcw_ok (v := 10000000) h0 hown (hts _ kw_1309) kd_M_charge_20 ?_
    refine wq_call_ok hA (wq_runS ⟨h0.1, h0.2, hml, hown, hts⟩ (kv_M_within hl) ⟨(wq_cB hts kw_G kw_1209 kw_10 kw_1207 ⟨by decide +kernel, by decide +kernel, by decide +kernel⟩ rfl rfl ⟨Nat.le_of_ble_eq_true rfl, Nat.le_of_ble_eq_true rfl⟩), hts _ kw_1208⟩ hK hZ hN hA kd_M_charge_23) (wq_xout_ok hnt hlk) ?_
    refine wq_if_ne_ok (tgt := 33) h0 kd_M_charge_26 (by decide) ?_ ?_
    · exact hb_33
    exact hb_29
  exact hb_0 _ _ _ _ _ (wq_sp_t hsp)
-- BorderDeskModel.lineOf(III)J
def kt_M_lineOf_146 (rt : Option wq_V → wq_W → Prop) (xt : Nat → wq_W → Prop) : wq_T := (wq_lreturn 0 0 rt)
def kt_M_lineOf_140 (rt : Option wq_V → wq_W → Prop) (xt : Nat → wq_W → Prop) : wq_T := (wq_aload 0 (wq_get 9 55 (wq_iload 2 (wq_lald (kt_M_lineOf_146 rt xt)))))
def kt_M_lineOf_119 (rt : Option wq_V → wq_W → Prop) (xt : Nat → wq_W → Prop) : wq_T := (wq_aload 0 (wq_iload 1 (wq_call (wq_rv 9 wq_no) 2 0 0 0 0 (wq_xout 0 0 xt) (wq_pop2 (wq_iload 3 (wq_iconst (nI 1) (wq_f2 (fun x y => x = y) (wq_aload 0 (wq_get 9 54 (wq_iload 2 (wq_iald (wq_i2l (kt_M_lineOf_146 rt xt)))))) (kt_M_lineOf_140 rt xt))))))))
def kt_M_lineOf_107 (rt : Option wq_V → wq_W → Prop) (xt : Nat → wq_W → Prop) : wq_T := (wq_put 9 0 wq_isI (wq_aload 0 (wq_get 9 0 (wq_f1 (fun x => x ≤ 0) (kt_M_lineOf_119 rt xt) (wq_lconst (0 : Int64) (wq_lreturn 0 0 rt))))))
def kt_M_lineOf_106 (rt : Option wq_V → wq_W → Prop) (xt : Nat → wq_W → Prop) : wq_T := (wq_iconst (nI 2) (kt_M_lineOf_107 rt xt))
def kt_M_lineOf_93 (rt : Option wq_V → wq_W → Prop) (xt : Nat → wq_W → Prop) : wq_T := (wq_aload 0 (wq_aload 0 (wq_iload 1 (wq_call (wq_rv 9 wq_no) 2 0 0 0 0 (wq_xout 0 0 xt) (wq_f1 (fun x => x = 0) (kt_M_lineOf_106 rt xt) (wq_iconst (nI 0) (kt_M_lineOf_107 rt xt)))))))
def kt_M_lineOf_92 (rt : Option wq_V → wq_W → Prop) (xt : Nat → wq_W → Prop) : wq_T := (wq_lreturn 0 0 rt)
def kt_M_lineOf_85 (rt : Option wq_V → wq_W → Prop) (xt : Nat → wq_W → Prop) : wq_T := (wq_aload 0 (wq_get 9 51 (wq_iload 4 (wq_lald (kt_M_lineOf_92 rt xt)))))
def kt_M_lineOf_60 (rt : Option wq_V → wq_W → Prop) (xt : Nat → wq_W → Prop) : wq_T := (wq_aload 0 (wq_get 9 40 (wq_iload 1 (wq_zald (wq_f1 (fun x => x = 0) (kt_M_lineOf_93 rt xt) (wq_iload 3 (wq_iconst (nI 1) (wq_f2 (fun x y => x = y) (wq_aload 0 (wq_get 9 50 (wq_iload 4 (wq_iald (wq_i2l (kt_M_lineOf_92 rt xt)))))) (kt_M_lineOf_85 rt xt)))))))))
def kt_M_lineOf_36 (rt : Option wq_V → wq_W → Prop) (xt : Nat → wq_W → Prop) : wq_T := (wq_iconst (nI 4) (wq_iload 1 (wq_i2 (fun x y => x * y) (wq_iload 2 (wq_i2 (fun x y => x + y) (wq_istore 4 (wq_iload 3 (wq_f1 (fun x => x = 0) (wq_aload 0 (wq_iload 1 (wq_call (wq_rv 9 wq_no) 2 0 0 0 0 (wq_xout 0 0 xt) (wq_aload 0 (wq_get 9 46 (wq_iload 4 (wq_lald (wq_lreturn 0 0 rt)))))))) (kt_M_lineOf_60 rt xt)))))))))
def kt_M_lineOf_24 (rt : Option wq_V → wq_W → Prop) (xt : Nat → wq_W → Prop) : wq_T := (wq_put 9 0 wq_isI (wq_aload 0 (wq_get 9 0 (wq_f1 (fun x => x ≤ 0) (kt_M_lineOf_36 rt xt) (wq_lconst (0 : Int64) (wq_lreturn 0 0 rt))))))
def kt_M_lineOf_23 (rt : Option wq_V → wq_W → Prop) (xt : Nat → wq_W → Prop) : wq_T := (wq_iconst (nI 1) (kt_M_lineOf_24 rt xt))
def kt_M_lineOf_0 (rt : Option wq_V → wq_W → Prop) (xt : Nat → wq_W → Prop) : wq_T := (wq_aload 0 (wq_aload 0 (wq_iload 1 (wq_iload 2 (wq_call (wq_rv 9 ks_M_isLine) 3 0 0 0 0 (wq_xout 0 0 xt) (wq_f1 (fun x => x = 0) (kt_M_lineOf_23 rt xt) (wq_iload 3 (wq_iconst (nI 0) (wq_iconst (nI 2) (wq_call ks_M_within 3 0 0 0 0 (wq_xout 0 0 xt) (wq_f1 (fun x => x = 0) (kt_M_lineOf_23 rt xt) (wq_iconst (nI 0) (kt_M_lineOf_24 rt xt)))))))))))))
def ks_M_lineOf : wq_S := wq_sp 5 (fun rt xt => kt_M_lineOf_0 rt xt)
set_option maxRecDepth 100000 in
set_option maxHeartbeats 4000000 in
theorem kv_M_lineOf {l : Launch} (hl : l.stackTraces = false) : wq_Vld l kz_cl ky_M_lineOf kw_T ({ frames := 2, cells := 0, slots := 0, locals := 43 }) wq_G0 ks_M_lineOf 0 0 := by
  refine wq_method (cc := kc_M_lineOf) (maxL := 5) (ret := (some .long)) (by decide) kw_1313 (fun _ _ => rfl) wq_sp_sz ?_
  intro p e s m args below meth c cs D ad as w rt xt hF hnt hsp
  obtain ⟨h0, hr, hts, hown, hlk, hnm, hml, hK, hZ, hN, hA⟩ := hF
  have hown : s.vm.findClass "BorderDeskModel" = some m.cls := hown
  obtain ⟨A, hAe⟩ : ∃ A, A = wq_A ad w s.heap.size := ⟨_, rfl⟩
  rw [← hAe] at hZ hA ⊢
  have hb_146 : wq_Snd p l e ({ frames := 2, cells := 0, slots := 0, locals := 43 } : Room) s m args below meth c 5 cs D kz_cl A (wq_G0 ad w) (wq_Q cs D kz_cl A (wq_G0 ad w) rt xt below s 0 0) 146 (kt_M_lineOf_146 rt xt) := by
    exact wq_lreturn_ok h0 hr hlk kd_M_lineOf_146
  have hb_140 : wq_Snd p l e ({ frames := 2, cells := 0, slots := 0, locals := 43 } : Room) s m args below meth c 5 cs D kz_cl A (wq_G0 ad w) (wq_Q cs D kz_cl A (wq_G0 ad w) rt xt below s 0 0) 140 (kt_M_lineOf_140 rt xt) := by
    refine wq_aload_n_ok h0 kd_M_lineOf_140 rfl ?_
    refine wq_get_ok (wq_getOK h0 hts ki_M hown hK (ci := 9) rfl 55 (Nat.le_of_ble_eq_true rfl) kw_1037 rfl) kd_M_lineOf_141 ?_
    refine wq_iload_n_ok h0 kd_M_lineOf_144 rfl ?_
    refine wq_lald_ok h0 hK kd_M_lineOf_145 ?_
    exact hb_146
  have hb_119 : wq_Snd p l e ({ frames := 2, cells := 0, slots := 0, locals := 43 } : Room) s m args below meth c 5 cs D kz_cl A (wq_G0 ad w) (wq_Q cs D kz_cl A (wq_G0 ad w) rt xt below s 0 0) 119 (kt_M_lineOf_119 rt xt) := by
    refine wq_aload_n_ok h0 kd_M_lineOf_119 rfl ?_
    refine wq_iload_n_ok h0 kd_M_lineOf_120 rfl ?_
    refine wq_call_ok hA (wq_runV (ci := 9) ⟨h0.1, h0.2, hml, hown, hts⟩ (wq_no_ok (y := ({ cls := "BorderDeskModel", name := "assess", desc := "(I)J" } : Jvm.MethodName)) (ws := kw_T) (rm := { frames := 0, cells := 0, slots := 0, locals := 0 }) (mc := 0) (ms := 0)) ⟨(wq_cB hts kw_G kw_1338 kw_10 kw_1335 ⟨by decide +kernel, by decide +kernel, by decide +kernel⟩ rfl rfl ⟨Nat.le_of_ble_eq_true rfl, Nat.le_of_ble_eq_true rfl⟩), hts _ kw_1337, hts _ kw_s45⟩ rfl rfl hK hZ hN hA kd_M_lineOf_121) (wq_xout_ok hnt hlk) ?_
    refine wq_pop2_ok h0 kd_M_lineOf_124 ?_
    refine wq_iload_n_ok h0 kd_M_lineOf_125 rfl ?_
    refine wq_iconst_ok h0 kd_M_lineOf_126 (by decide +kernel) ?_
    refine wq_icmp_ne_ok (tgt := 140) h0 kd_M_lineOf_127 (by decide) ?_ ?_
    · exact hb_140
    refine wq_aload_n_ok h0 kd_M_lineOf_130 rfl ?_
    refine wq_get_ok (wq_getOK h0 hts ki_M hown hK (ci := 9) rfl 54 (Nat.le_of_ble_eq_true rfl) kw_1036 rfl) kd_M_lineOf_131 ?_
    refine wq_iload_n_ok h0 kd_M_lineOf_134 rfl ?_
    refine wq_iald_ok h0 hK kd_M_lineOf_135 ?_
    refine wq_i2l_ok h0 kd_M_lineOf_136 ?_
    refine wq_goto_ok (tgt := 146) h0 kd_M_lineOf_137 (by decide) ?_
    exact hb_146
  have hb_107 : wq_Snd p l e ({ frames := 2, cells := 0, slots := 0, locals := 43 } : Room) s m args below meth c 5 cs D kz_cl A (wq_G0 ad w) (wq_Q cs D kz_cl A (wq_G0 ad w) rt xt below s 0 0) 107 (kt_M_lineOf_107 rt xt) := by
    refine wq_put_ok (wq_putOK h0 hts ki_M ka_M kb_M kn_M hown hK (ci := 9) rfl 0 (Nat.le_of_ble_eq_true rfl) kw_982 rfl (Or.inl rfl) wq_okI) kd_M_lineOf_107 ?_
    refine wq_aload_n_ok h0 kd_M_lineOf_110 rfl ?_
    refine wq_get_ok (wq_getOK h0 hts ki_M hown hK (ci := 9) rfl 0 (Nat.le_of_ble_eq_true rfl) kw_982 rfl) kd_M_lineOf_111 ?_
    refine wq_if_le_ok (tgt := 119) h0 kd_M_lineOf_114 (by decide) ?_ ?_
    · exact hb_119
    refine wq_lconst_ok h0 kd_M_lineOf_117 (by decide +kernel) ?_
    exact wq_lreturn_ok h0 hr hlk kd_M_lineOf_118
  have hb_106 : wq_Snd p l e ({ frames := 2, cells := 0, slots := 0, locals := 43 } : Room) s m args below meth c 5 cs D kz_cl A (wq_G0 ad w) (wq_Q cs D kz_cl A (wq_G0 ad w) rt xt below s 0 0) 106 (kt_M_lineOf_106 rt xt) := by
    refine wq_iconst_ok h0 kd_M_lineOf_106 (by decide +kernel) ?_
    exact hb_107
  have hb_93 : wq_Snd p l e ({ frames := 2, cells := 0, slots := 0, locals := 43 } : Room) s m args below meth c 5 cs D kz_cl A (wq_G0 ad w) (wq_Q cs D kz_cl A (wq_G0 ad w) rt xt below s 0 0) 93 (kt_M_lineOf_93 rt xt) := by
    refine wq_aload_n_ok h0 kd_M_lineOf_93 rfl ?_
    refine wq_aload_n_ok h0 kd_M_lineOf_94 rfl ?_
    refine wq_iload_n_ok h0 kd_M_lineOf_95 rfl ?_
    refine wq_call_ok hA (wq_runV (ci := 9) ⟨h0.1, h0.2, hml, hown, hts⟩ (wq_no_ok (y := ({ cls := "BorderDeskModel", name := "find", desc := "(I)Z" } : Jvm.MethodName)) (ws := kw_T) (rm := { frames := 0, cells := 0, slots := 0, locals := 0 }) (mc := 0) (ms := 0)) ⟨(wq_cB hts kw_G kw_1330 kw_10 kw_1327 ⟨by decide +kernel, by decide +kernel, by decide +kernel⟩ rfl rfl ⟨Nat.le_of_ble_eq_true rfl, Nat.le_of_ble_eq_true rfl⟩), hts _ kw_1329, hts _ kw_s43⟩ rfl rfl hK hZ hN hA kd_M_lineOf_96) (wq_xout_ok hnt hlk) ?_
    refine wq_if_eq_ok (tgt := 106) h0 kd_M_lineOf_99 (by decide) ?_ ?_
    · exact hb_106
    refine wq_iconst_ok h0 kd_M_lineOf_102 (by decide +kernel) ?_
    refine wq_goto_ok (tgt := 107) h0 kd_M_lineOf_103 (by decide) ?_
    exact hb_107
  have hb_92 : wq_Snd p l e ({ frames := 2, cells := 0, slots := 0, locals := 43 } : Room) s m args below meth c 5 cs D kz_cl A (wq_G0 ad w) (wq_Q cs D kz_cl A (wq_G0 ad w) rt xt below s 0 0) 92 (kt_M_lineOf_92 rt xt) := by
    exact wq_lreturn_ok h0 hr hlk kd_M_lineOf_92
  have hb_85 : wq_Snd p l e ({ frames := 2, cells := 0, slots := 0, locals := 43 } : Room) s m args below meth c 5 cs D kz_cl A (wq_G0 ad w) (wq_Q cs D kz_cl A (wq_G0 ad w) rt xt below s 0 0) 85 (kt_M_lineOf_85 rt xt) := by
    refine wq_aload_n_ok h0 kd_M_lineOf_85 rfl ?_
    refine wq_get_ok (wq_getOK h0 hts ki_M hown hK (ci := 9) rfl 51 (Nat.le_of_ble_eq_true rfl) kw_1033 rfl) kd_M_lineOf_86 ?_
    refine wq_iload_ok h0 kd_M_lineOf_89 ?_
    refine wq_lald_ok h0 hK kd_M_lineOf_91 ?_
    exact hb_92
  have hb_60 : wq_Snd p l e ({ frames := 2, cells := 0, slots := 0, locals := 43 } : Room) s m args below meth c 5 cs D kz_cl A (wq_G0 ad w) (wq_Q cs D kz_cl A (wq_G0 ad w) rt xt below s 0 0) 60 (kt_M_lineOf_60 rt xt) := by
    refine wq_aload_n_ok h0 kd_M_lineOf_60 rfl ?_
    refine wq_get_ok (wq_getOK h0 hts ki_M hown hK (ci := 9) rfl 40 (Nat.le_of_ble_eq_true rfl) kw_1022 rfl) kd_M_lineOf_61 ?_
    refine wq_iload_n_ok h0 kd_M_lineOf_64 rfl ?_
    refine wq_zald_ok h0 hK kd_M_lineOf_65 ?_
    refine wq_if_eq_ok (tgt := 93) h0 kd_M_lineOf_66 (by decide) ?_ ?_
    · exact hb_93
    refine wq_iload_n_ok h0 kd_M_lineOf_69 rfl ?_
    refine wq_iconst_ok h0 kd_M_lineOf_70 (by decide +kernel) ?_
    refine wq_icmp_ne_ok (tgt := 85) h0 kd_M_lineOf_71 (by decide) ?_ ?_
    · exact hb_85
    refine wq_aload_n_ok h0 kd_M_lineOf_74 rfl ?_
    refine wq_get_ok (wq_getOK h0 hts ki_M hown hK (ci := 9) rfl 50 (Nat.le_of_ble_eq_true rfl) kw_1032 rfl) kd_M_lineOf_75 ?_
    refine wq_iload_ok h0 kd_M_lineOf_78 ?_
    refine wq_iald_ok h0 hK kd_M_lineOf_80 ?_
    refine wq_i2l_ok h0 kd_M_lineOf_81 ?_
    refine wq_goto_ok (tgt := 92) h0 kd_M_lineOf_82 (by decide) ?_
    exact hb_92
  have hb_36 : wq_Snd p l e ({ frames := 2, cells := 0, slots := 0, locals := 43 } : Room) s m args below meth c 5 cs D kz_cl A (wq_G0 ad w) (wq_Q cs D kz_cl A (wq_G0 ad w) rt xt below s 0 0) 36 (kt_M_lineOf_36 rt xt) := by
    refine wq_iconst_ok h0 kd_M_lineOf_36 (by decide +kernel) ?_
    refine wq_iload_n_ok h0 kd_M_lineOf_37 rfl ?_
    refine wq_imul_ok h0 kd_M_lineOf_38 ?_
    refine wq_iload_n_ok h0 kd_M_lineOf_39 rfl ?_
    refine wq_iadd_ok h0 kd_M_lineOf_40 ?_
    refine wq_istore_ok h0 kd_M_lineOf_41 (Nat.le_of_ble_eq_true rfl) ?_
    refine wq_iload_n_ok h0 kd_M_lineOf_43 rfl ?_
    refine wq_if_ne_ok (tgt := 60) h0 kd_M_lineOf_44 (by decide) ?_ ?_
    · exact hb_60
    refine wq_aload_n_ok h0 kd_M_lineOf_47 rfl ?_
    refine wq_iload_n_ok h0 kd_M_lineOf_48 rfl ?_
    refine wq_call_ok hA (wq_runV (ci := 9) ⟨h0.1, h0.2, hml, hown, hts⟩ (wq_no_ok (y := ({ cls := "BorderDeskModel", name := "value", desc := "(I)V" } : Jvm.MethodName)) (ws := kw_T) (rm := { frames := 0, cells := 0, slots := 0, locals := 0 }) (mc := 0) (ms := 0)) ⟨(wq_cB hts kw_G kw_1321 kw_10 kw_1318 ⟨by decide +kernel, by decide +kernel, by decide +kernel⟩ rfl rfl ⟨Nat.le_of_ble_eq_true rfl, Nat.le_of_ble_eq_true rfl⟩), hts _ kw_1320, hts _ kw_s41⟩ rfl rfl hK hZ hN hA kd_M_lineOf_49) (wq_xout_ok hnt hlk) ?_
    refine wq_aload_n_ok h0 kd_M_lineOf_52 rfl ?_
    refine wq_get_ok (wq_getOK h0 hts ki_M hown hK (ci := 9) rfl 46 (Nat.le_of_ble_eq_true rfl) kw_1028 rfl) kd_M_lineOf_53 ?_
    refine wq_iload_ok h0 kd_M_lineOf_56 ?_
    refine wq_lald_ok h0 hK kd_M_lineOf_58 ?_
    exact wq_lreturn_ok h0 hr hlk kd_M_lineOf_59
  have hb_24 : wq_Snd p l e ({ frames := 2, cells := 0, slots := 0, locals := 43 } : Room) s m args below meth c 5 cs D kz_cl A (wq_G0 ad w) (wq_Q cs D kz_cl A (wq_G0 ad w) rt xt below s 0 0) 24 (kt_M_lineOf_24 rt xt) := by
    refine wq_put_ok (wq_putOK h0 hts ki_M ka_M kb_M kn_M hown hK (ci := 9) rfl 0 (Nat.le_of_ble_eq_true rfl) kw_982 rfl (Or.inl rfl) wq_okI) kd_M_lineOf_24 ?_
    refine wq_aload_n_ok h0 kd_M_lineOf_27 rfl ?_
    refine wq_get_ok (wq_getOK h0 hts ki_M hown hK (ci := 9) rfl 0 (Nat.le_of_ble_eq_true rfl) kw_982 rfl) kd_M_lineOf_28 ?_
    refine wq_if_le_ok (tgt := 36) h0 kd_M_lineOf_31 (by decide) ?_ ?_
    · exact hb_36
    refine wq_lconst_ok h0 kd_M_lineOf_34 (by decide +kernel) ?_
    exact wq_lreturn_ok h0 hr hlk kd_M_lineOf_35
  have hb_23 : wq_Snd p l e ({ frames := 2, cells := 0, slots := 0, locals := 43 } : Room) s m args below meth c 5 cs D kz_cl A (wq_G0 ad w) (wq_Q cs D kz_cl A (wq_G0 ad w) rt xt below s 0 0) 23 (kt_M_lineOf_23 rt xt) := by
    refine wq_iconst_ok h0 kd_M_lineOf_23 (by decide +kernel) ?_
    exact hb_24
  have hb_0 : wq_Snd p l e ({ frames := 2, cells := 0, slots := 0, locals := 43 } : Room) s m args below meth c 5 cs D kz_cl A (wq_G0 ad w) (wq_Q cs D kz_cl A (wq_G0 ad w) rt xt below s 0 0) 0 (kt_M_lineOf_0 rt xt) := by
    refine wq_aload_n_ok h0 kd_M_lineOf_0 rfl ?_
    refine wq_aload_n_ok h0 kd_M_lineOf_1 rfl ?_
    refine wq_iload_n_ok h0 kd_M_lineOf_2 rfl ?_
    refine wq_iload_n_ok h0 kd_M_lineOf_3 rfl ?_
    refine wq_call_ok hA (wq_runV (ci := 9) ⟨h0.1, h0.2, hml, hown, hts⟩ (kv_M_isLine hl) ⟨(wq_cB hts kw_G kw_1317 kw_10 kw_1314 ⟨by decide +kernel, by decide +kernel, by decide +kernel⟩ rfl rfl ⟨Nat.le_of_ble_eq_true rfl, Nat.le_of_ble_eq_true rfl⟩), hts _ kw_1316, hts _ kw_s40⟩ rfl rfl hK hZ hN hA kd_M_lineOf_4) (wq_xout_ok hnt hlk) ?_
    refine wq_if_eq_ok (tgt := 23) h0 kd_M_lineOf_7 (by decide) ?_ ?_
    · exact hb_23
    refine wq_iload_n_ok h0 kd_M_lineOf_10 rfl ?_
    refine wq_iconst_ok h0 kd_M_lineOf_11 (by decide +kernel) ?_
    refine wq_iconst_ok h0 kd_M_lineOf_12 (by decide +kernel) ?_
    refine wq_call_ok hA (wq_runS ⟨h0.1, h0.2, hml, hown, hts⟩ (kv_M_within hl) ⟨(wq_cB hts kw_G kw_1209 kw_10 kw_1207 ⟨by decide +kernel, by decide +kernel, by decide +kernel⟩ rfl rfl ⟨Nat.le_of_ble_eq_true rfl, Nat.le_of_ble_eq_true rfl⟩), hts _ kw_1208⟩ hK hZ hN hA kd_M_lineOf_13) (wq_xout_ok hnt hlk) ?_
    refine wq_if_eq_ok (tgt := 23) h0 kd_M_lineOf_16 (by decide) ?_ ?_
    · exact hb_23
    refine wq_iconst_ok h0 kd_M_lineOf_19 (by decide +kernel) ?_
    refine wq_goto_ok (tgt := 24) h0 kd_M_lineOf_20 (by decide) ?_
    exact hb_24
  exact hb_0 _ _ _ _ _ (wq_sp_t hsp)
-- BorderDeskModel.accept(I)J
def kt_M_accept_191 (rt : Option wq_V → wq_W → Prop) (xt : Nat → wq_W → Prop) (K : Nat → wq_T) : wq_T := (wq_aload 0 (wq_get 9 40 (wq_iload 1 (wq_iconst (nI 1) (wq_zast (wq_aload 0 (wq_iload 1 (wq_put 9 41 wq_isI (wq_lload 2 (wq_lreturn 0 0 rt))))))))))
def kt_M_accept_182 (rt : Option wq_V → wq_W → Prop) (xt : Nat → wq_W → Prop) (K : Nat → wq_T) : wq_T := (wq_put 9 66 wq_isL (wq_iinc 4 (nI 1) (K 95)))
def kt_M_accept_170 (rt : Option wq_V → wq_W → Prop) (xt : Nat → wq_W → Prop) (K : Nat → wq_T) : wq_T := (wq_aload 0 (wq_get 9 66 (wq_aload 0 (wq_get 9 51 (wq_iload 4 (wq_lald (wq_l2 (fun x y => x + y) (kt_M_accept_182 rt xt K))))))))
def kh_M_accept_95 (rt : Option wq_V → wq_W → Prop) (xt : Nat → wq_W → Prop) (K : Nat → wq_T) : wq_T := (wq_iload 4 (wq_iconst (nI 4) (wq_iload 1 (wq_i2 (fun x y => x * y) (wq_aload 0 (wq_get 9 38 (wq_iload 1 (wq_iald (wq_i2 (fun x y => x + y) (wq_f2 (fun x y => y ≤ x) (kt_M_accept_191 rt xt K) (wq_aload 0 (wq_get 9 48 (wq_iload 4 (wq_aload 0 (wq_aload 0 (wq_get 9 42 (wq_iload 4 (wq_iald (wq_aload 0 (wq_get 9 45 (wq_iconst (nI 3) (wq_iload 4 (wq_i2 (fun x y => x * y) (wq_iald (wq_aload 0 (wq_get 9 51 (wq_iload 4 (wq_lald (wq_aload 0 (wq_get 9 44 (wq_iload 4 (wq_zald (wq_iconst (nI 0) (wq_call (wq_rv 9 wq_no) 6 0 0 0 0 (wq_xout 0 0 xt) (wq_iast (wq_aload 0 (wq_aload 0 (wq_get 9 44 (wq_iload 4 (wq_zald (wq_f1 (fun x => x = 0) (kt_M_accept_170 rt xt K) (wq_aload 0 (wq_get 9 66 (kt_M_accept_182 rt xt K))))))))))))))))))))))))))))))))))))))))))))
def kt_M_accept_79 (rt : Option wq_V → wq_W → Prop) (xt : Nat → wq_W → Prop) (K : Nat → wq_T) : wq_T := (wq_aload 0 (wq_iload 1 (wq_call (wq_rv 9 wq_no) 2 0 0 0 0 (wq_xout 0 0 xt) (wq_lstore 2 (wq_aload 0 (wq_iload 1 (wq_call (wq_rv 9 wq_no) 2 0 0 0 0 (wq_xout 0 0 xt) (wq_iconst (nI 4) (wq_iload 1 (wq_i2 (fun x y => x * y) (wq_istore 4 (K 95))))))))))))
def kt_M_accept_67 (rt : Option wq_V → wq_W → Prop) (xt : Nat → wq_W → Prop) (K : Nat → wq_T) : wq_T := (wq_put 9 0 wq_isI (wq_aload 0 (wq_get 9 0 (wq_f1 (fun x => x ≤ 0) (kt_M_accept_79 rt xt K) (wq_lconst (0 : Int64) (wq_lreturn 0 0 rt))))))
def kt_M_accept_30 (rt : Option wq_V → wq_W → Prop) (xt : Nat → wq_W → Prop) (K : Nat → wq_T) : wq_T := (wq_iconst (nI 2) (kt_M_accept_67 rt xt K))
def kt_M_accept_66 (rt : Option wq_V → wq_W → Prop) (xt : Nat → wq_W → Prop) (K : Nat → wq_T) : wq_T := (wq_iconst (nI 0) (kt_M_accept_67 rt xt K))
def kt_M_accept_46 (rt : Option wq_V → wq_W → Prop) (xt : Nat → wq_W → Prop) (K : Nat → wq_T) : wq_T := (wq_aload 0 (wq_get 9 56 (wq_aload 0 (wq_get 9 38 (wq_iload 1 (wq_iald (wq_i2 (fun x y => x + y) (wq_iconst (nI 40) (wq_f2 (fun x y => x ≤ y) (kt_M_accept_66 rt xt K) (wq_iconst (nI 4) (kt_M_accept_67 rt xt K)))))))))))
def kt_M_accept_34 (rt : Option wq_V → wq_W → Prop) (xt : Nat → wq_W → Prop) (K : Nat → wq_T) : wq_T := (wq_aload 0 (wq_iload 1 (wq_call (wq_rv 9 wq_no) 2 0 0 0 0 (wq_xout 0 0 xt) (wq_f1 (fun x => x = 0) (wq_iconst (nI 3) (kt_M_accept_67 rt xt K)) (kt_M_accept_46 rt xt K)))))
def kt_M_accept_13 (rt : Option wq_V → wq_W → Prop) (xt : Nat → wq_W → Prop) (K : Nat → wq_T) : wq_T := (wq_aload 0 (wq_get 9 40 (wq_iload 1 (wq_zald (wq_f1 (fun x => x = 0) (wq_aload 0 (wq_iload 1 (wq_call (wq_rv 9 wq_no) 2 0 0 0 0 (wq_xout 0 0 xt) (wq_f1 (fun x => x = 0) (kt_M_accept_34 rt xt K) (kt_M_accept_30 rt xt K))))) (kt_M_accept_30 rt xt K))))))
def kt_M_accept_0 (rt : Option wq_V → wq_W → Prop) (xt : Nat → wq_W → Prop) (K : Nat → wq_T) : wq_T := (wq_aload 0 (wq_aload 0 (wq_iload 1 (wq_call (wq_rv 9 ks_M_isDeclaration) 2 0 0 0 0 (wq_xout 0 0 xt) (wq_f1 (fun x => x = 0) (wq_iconst (nI 1) (kt_M_accept_67 rt xt K)) (kt_M_accept_13 rt xt K))))))
def ku_M_accept (rt : Option wq_V → wq_W → Prop) (xt : Nat → wq_W → Prop) : Nat → Nat → wq_T
  | 0, _ => fun _ _ _ _ _ => False
  | n + 1, pc => cond (Nat.beq pc 95) (kh_M_accept_95 rt xt (ku_M_accept rt xt n)) (fun _ _ _ _ _ => False)
def ks_M_accept : wq_S := wq_sp 5 (fun rt xt => kt_M_accept_0 rt xt (ku_M_accept rt xt 40))
set_option maxRecDepth 100000 in
set_option maxHeartbeats 4000000 in
theorem kv_M_accept {l : Launch} (hl : l.stackTraces = false) : wq_Vld l kz_cl ky_M_accept kw_T ({ frames := 1, cells := 0, slots := 0, locals := 26 }) wq_G0 ks_M_accept 0 0 := by
  refine wq_method (cc := kc_M_accept) (maxL := 5) (ret := (some .long)) (by decide) kw_1356 (fun _ _ => rfl) wq_sp_sz ?_
  intro p e s m args below meth c cs D ad as w rt xt hF hnt hsp
  obtain ⟨h0, hr, hts, hown, hlk, hnm, hml, hK, hZ, hN, hA⟩ := hF
  have hown : s.vm.findClass "BorderDeskModel" = some m.cls := hown
  obtain ⟨A, hAe⟩ : ∃ A, A = wq_A ad w s.heap.size := ⟨_, rfl⟩
  rw [← hAe] at hZ hA ⊢
  have hall : ∀ K : Nat → wq_T, (∀ pc, pc ∈ [95] → wq_Snd p l e ({ frames := 1, cells := 0, slots := 0, locals := 26 } : Room) s m args below meth c 5 cs D kz_cl A (wq_G0 ad w) (wq_Q cs D kz_cl A (wq_G0 ad w) rt xt below s 0 0) pc (K pc)) → (∀ pc, pc ∈ [95] → wq_Snd p l e ({ frames := 1, cells := 0, slots := 0, locals := 26 } : Room) s m args below meth c 5 cs D kz_cl A (wq_G0 ad w) (wq_Q cs D kz_cl A (wq_G0 ad w) rt xt below s 0 0) pc (cond (Nat.beq pc 95) (kh_M_accept_95 rt xt K) (fun _ _ _ _ _ => False))) ∧ wq_Snd p l e ({ frames := 1, cells := 0, slots := 0, locals := 26 } : Room) s m args below meth c 5 cs D kz_cl A (wq_G0 ad w) (wq_Q cs D kz_cl A (wq_G0 ad w) rt xt below s 0 0) 0 (kt_M_accept_0 rt xt K) := by
    intro K hKc
    have hb_191 : wq_Snd p l e ({ frames := 1, cells := 0, slots := 0, locals := 26 } : Room) s m args below meth c 5 cs D kz_cl A (wq_G0 ad w) (wq_Q cs D kz_cl A (wq_G0 ad w) rt xt below s 0 0) 191 (kt_M_accept_191 rt xt K) := by
      refine wq_aload_n_ok h0 kd_M_accept_191 rfl ?_
      refine wq_get_ok (wq_getOK h0 hts ki_M hown hK (ci := 9) rfl 40 (Nat.le_of_ble_eq_true rfl) kw_1022 rfl) kd_M_accept_192 ?_
      refine wq_iload_n_ok h0 kd_M_accept_195 rfl ?_
      refine wq_iconst_ok h0 kd_M_accept_196 (by decide +kernel) ?_
      refine wq_zast_ok h0 hK kd_M_accept_197 ?_
      refine wq_aload_n_ok h0 kd_M_accept_198 rfl ?_
      refine wq_iload_n_ok h0 kd_M_accept_199 rfl ?_
      refine wq_put_ok (wq_putOK h0 hts ki_M ka_M kb_M kn_M hown hK (ci := 9) rfl 41 (Nat.le_of_ble_eq_true rfl) kw_1023 rfl (Or.inl rfl) wq_okI) kd_M_accept_200 ?_
      refine wq_lload_n_ok h0 kd_M_accept_203 rfl ?_
      exact wq_lreturn_ok h0 hr hlk kd_M_accept_204
    have hb_182 : wq_Snd p l e ({ frames := 1, cells := 0, slots := 0, locals := 26 } : Room) s m args below meth c 5 cs D kz_cl A (wq_G0 ad w) (wq_Q cs D kz_cl A (wq_G0 ad w) rt xt below s 0 0) 182 (kt_M_accept_182 rt xt K) := by
      refine wq_put_ok (wq_putOK h0 hts ki_M ka_M kb_M kn_M hown hK (ci := 9) rfl 66 (Nat.le_of_ble_eq_true rfl) kw_1048 rfl (Or.inl rfl) wq_okL) kd_M_accept_182 ?_
      refine wq_iinc_ok h0 kd_M_accept_185 (by decide +kernel) (Nat.le_of_ble_eq_true rfl) ?_
      refine wq_goto_ok (tgt := 95) h0 kd_M_accept_188 (by decide) ?_
      exact hKc 95 (by decide)
    have hb_170 : wq_Snd p l e ({ frames := 1, cells := 0, slots := 0, locals := 26 } : Room) s m args below meth c 5 cs D kz_cl A (wq_G0 ad w) (wq_Q cs D kz_cl A (wq_G0 ad w) rt xt below s 0 0) 170 (kt_M_accept_170 rt xt K) := by
      refine wq_aload_n_ok h0 kd_M_accept_170 rfl ?_
      refine wq_get_ok (wq_getOK h0 hts ki_M hown hK (ci := 9) rfl 66 (Nat.le_of_ble_eq_true rfl) kw_1048 rfl) kd_M_accept_171 ?_
      refine wq_aload_n_ok h0 kd_M_accept_174 rfl ?_
      refine wq_get_ok (wq_getOK h0 hts ki_M hown hK (ci := 9) rfl 51 (Nat.le_of_ble_eq_true rfl) kw_1033 rfl) kd_M_accept_175 ?_
      refine wq_iload_ok h0 kd_M_accept_178 ?_
      refine wq_lald_ok h0 hK kd_M_accept_180 ?_
      refine wq_ladd_ok h0 kd_M_accept_181 ?_
      exact hb_182
    have hb_95 : wq_Snd p l e ({ frames := 1, cells := 0, slots := 0, locals := 26 } : Room) s m args below meth c 5 cs D kz_cl A (wq_G0 ad w) (wq_Q cs D kz_cl A (wq_G0 ad w) rt xt below s 0 0) 95 (kh_M_accept_95 rt xt K) := by
      refine wq_iload_ok h0 kd_M_accept_95 ?_
      refine wq_iconst_ok h0 kd_M_accept_97 (by decide +kernel) ?_
      refine wq_iload_n_ok h0 kd_M_accept_98 rfl ?_
      refine wq_imul_ok h0 kd_M_accept_99 ?_
      refine wq_aload_n_ok h0 kd_M_accept_100 rfl ?_
      refine wq_get_ok (wq_getOK h0 hts ki_M hown hK (ci := 9) rfl 38 (Nat.le_of_ble_eq_true rfl) kw_1020 rfl) kd_M_accept_101 ?_
      refine wq_iload_n_ok h0 kd_M_accept_104 rfl ?_
      refine wq_iald_ok h0 hK kd_M_accept_105 ?_
      refine wq_iadd_ok h0 kd_M_accept_106 ?_
      refine wq_icmp_ge_ok (tgt := 191) h0 kd_M_accept_107 (by decide) ?_ ?_
      · exact hb_191
      refine wq_aload_n_ok h0 kd_M_accept_110 rfl ?_
      refine wq_get_ok (wq_getOK h0 hts ki_M hown hK (ci := 9) rfl 48 (Nat.le_of_ble_eq_true rfl) kw_1030 rfl) kd_M_accept_111 ?_
      refine wq_iload_ok h0 kd_M_accept_114 ?_
      refine wq_aload_n_ok h0 kd_M_accept_116 rfl ?_
      refine wq_aload_n_ok h0 kd_M_accept_117 rfl ?_
      refine wq_get_ok (wq_getOK h0 hts ki_M hown hK (ci := 9) rfl 42 (Nat.le_of_ble_eq_true rfl) kw_1024 rfl) kd_M_accept_118 ?_
      refine wq_iload_ok h0 kd_M_accept_121 ?_
      refine wq_iald_ok h0 hK kd_M_accept_123 ?_
      refine wq_aload_n_ok h0 kd_M_accept_124 rfl ?_
      refine wq_get_ok (wq_getOK h0 hts ki_M hown hK (ci := 9) rfl 45 (Nat.le_of_ble_eq_true rfl) kw_1027 rfl) kd_M_accept_125 ?_
      refine wq_iconst_ok h0 kd_M_accept_128 (by decide +kernel) ?_
      refine wq_iload_ok h0 kd_M_accept_129 ?_
      refine wq_imul_ok h0 kd_M_accept_131 ?_
      refine wq_iald_ok h0 hK kd_M_accept_132 ?_
      refine wq_aload_n_ok h0 kd_M_accept_133 rfl ?_
      refine wq_get_ok (wq_getOK h0 hts ki_M hown hK (ci := 9) rfl 51 (Nat.le_of_ble_eq_true rfl) kw_1033 rfl) kd_M_accept_134 ?_
      refine wq_iload_ok h0 kd_M_accept_137 ?_
      refine wq_lald_ok h0 hK kd_M_accept_139 ?_
      refine wq_aload_n_ok h0 kd_M_accept_140 rfl ?_
      refine wq_get_ok (wq_getOK h0 hts ki_M hown hK (ci := 9) rfl 44 (Nat.le_of_ble_eq_true rfl) kw_1026 rfl) kd_M_accept_141 ?_
      refine wq_iload_ok h0 kd_M_accept_144 ?_
      refine wq_zald_ok h0 hK kd_M_accept_146 ?_
      refine wq_iconst_ok h0 kd_M_accept_147 (by decide +kernel) ?_
      refine wq_call_ok hA (wq_runV (ci := 9) ⟨h0.1, h0.2, hml, hown, hts⟩ (wq_no_ok (y := ({ cls := "BorderDeskModel", name := "addLot", desc := "(IIJZZ)I" } : Jvm.MethodName)) (ws := kw_T) (rm := { frames := 0, cells := 0, slots := 0, locals := 0 }) (mc := 0) (ms := 0)) ⟨(wq_cB hts kw_G kw_1368 kw_10 kw_1365 ⟨by decide +kernel, by decide +kernel, by decide +kernel⟩ rfl rfl ⟨Nat.le_of_ble_eq_true rfl, Nat.le_of_ble_eq_true rfl⟩), hts _ kw_1367, hts _ kw_s51⟩ rfl rfl hK hZ hN hA kd_M_accept_148) (wq_xout_ok hnt hlk) ?_
      refine wq_iast_ok h0 hK kd_M_accept_151 ?_
      refine wq_aload_n_ok h0 kd_M_accept_152 rfl ?_
      refine wq_aload_n_ok h0 kd_M_accept_153 rfl ?_
      refine wq_get_ok (wq_getOK h0 hts ki_M hown hK (ci := 9) rfl 44 (Nat.le_of_ble_eq_true rfl) kw_1026 rfl) kd_M_accept_154 ?_
      refine wq_iload_ok h0 kd_M_accept_157 ?_
      refine wq_zald_ok h0 hK kd_M_accept_159 ?_
      refine wq_if_eq_ok (tgt := 170) h0 kd_M_accept_160 (by decide) ?_ ?_
      · exact hb_170
      refine wq_aload_n_ok h0 kd_M_accept_163 rfl ?_
      refine wq_get_ok (wq_getOK h0 hts ki_M hown hK (ci := 9) rfl 66 (Nat.le_of_ble_eq_true rfl) kw_1048 rfl) kd_M_accept_164 ?_
      refine wq_goto_ok (tgt := 182) h0 kd_M_accept_167 (by decide) ?_
      exact hb_182
    have hb_79 : wq_Snd p l e ({ frames := 1, cells := 0, slots := 0, locals := 26 } : Room) s m args below meth c 5 cs D kz_cl A (wq_G0 ad w) (wq_Q cs D kz_cl A (wq_G0 ad w) rt xt below s 0 0) 79 (kt_M_accept_79 rt xt K) := by
      refine wq_aload_n_ok h0 kd_M_accept_79 rfl ?_
      refine wq_iload_n_ok h0 kd_M_accept_80 rfl ?_
      refine wq_call_ok hA (wq_runV (ci := 9) ⟨h0.1, h0.2, hml, hown, hts⟩ (wq_no_ok (y := ({ cls := "BorderDeskModel", name := "assess", desc := "(I)J" } : Jvm.MethodName)) (ws := kw_T) (rm := { frames := 0, cells := 0, slots := 0, locals := 0 }) (mc := 0) (ms := 0)) ⟨(wq_cB hts kw_G kw_1338 kw_10 kw_1335 ⟨by decide +kernel, by decide +kernel, by decide +kernel⟩ rfl rfl ⟨Nat.le_of_ble_eq_true rfl, Nat.le_of_ble_eq_true rfl⟩), hts _ kw_1337, hts _ kw_s45⟩ rfl rfl hK hZ hN hA kd_M_accept_81) (wq_xout_ok hnt hlk) ?_
      refine wq_lstore_n_ok h0 kd_M_accept_84 rfl (Nat.le_of_ble_eq_true rfl) ?_
      refine wq_aload_n_ok h0 kd_M_accept_85 rfl ?_
      refine wq_iload_n_ok h0 kd_M_accept_86 rfl ?_
      refine wq_call_ok hA (wq_runV (ci := 9) ⟨h0.1, h0.2, hml, hown, hts⟩ (wq_no_ok (y := ({ cls := "BorderDeskModel", name := "book", desc := "(I)V" } : Jvm.MethodName)) (ws := kw_T) (rm := { frames := 0, cells := 0, slots := 0, locals := 0 }) (mc := 0) (ms := 0)) ⟨(wq_cB hts kw_G kw_1364 kw_10 kw_1361 ⟨by decide +kernel, by decide +kernel, by decide +kernel⟩ rfl rfl ⟨Nat.le_of_ble_eq_true rfl, Nat.le_of_ble_eq_true rfl⟩), hts _ kw_1363, hts _ kw_s50⟩ rfl rfl hK hZ hN hA kd_M_accept_87) (wq_xout_ok hnt hlk) ?_
      refine wq_iconst_ok h0 kd_M_accept_90 (by decide +kernel) ?_
      refine wq_iload_n_ok h0 kd_M_accept_91 rfl ?_
      refine wq_imul_ok h0 kd_M_accept_92 ?_
      refine wq_istore_ok h0 kd_M_accept_93 (Nat.le_of_ble_eq_true rfl) ?_
      exact hKc 95 (by decide)
    have hb_67 : wq_Snd p l e ({ frames := 1, cells := 0, slots := 0, locals := 26 } : Room) s m args below meth c 5 cs D kz_cl A (wq_G0 ad w) (wq_Q cs D kz_cl A (wq_G0 ad w) rt xt below s 0 0) 67 (kt_M_accept_67 rt xt K) := by
      refine wq_put_ok (wq_putOK h0 hts ki_M ka_M kb_M kn_M hown hK (ci := 9) rfl 0 (Nat.le_of_ble_eq_true rfl) kw_982 rfl (Or.inl rfl) wq_okI) kd_M_accept_67 ?_
      refine wq_aload_n_ok h0 kd_M_accept_70 rfl ?_
      refine wq_get_ok (wq_getOK h0 hts ki_M hown hK (ci := 9) rfl 0 (Nat.le_of_ble_eq_true rfl) kw_982 rfl) kd_M_accept_71 ?_
      refine wq_if_le_ok (tgt := 79) h0 kd_M_accept_74 (by decide) ?_ ?_
      · exact hb_79
      refine wq_lconst_ok h0 kd_M_accept_77 (by decide +kernel) ?_
      exact wq_lreturn_ok h0 hr hlk kd_M_accept_78
    have hb_30 : wq_Snd p l e ({ frames := 1, cells := 0, slots := 0, locals := 26 } : Room) s m args below meth c 5 cs D kz_cl A (wq_G0 ad w) (wq_Q cs D kz_cl A (wq_G0 ad w) rt xt below s 0 0) 30 (kt_M_accept_30 rt xt K) := by
      refine wq_iconst_ok h0 kd_M_accept_30 (by decide +kernel) ?_
      refine wq_goto_ok (tgt := 67) h0 kd_M_accept_31 (by decide) ?_
      exact hb_67
    have hb_66 : wq_Snd p l e ({ frames := 1, cells := 0, slots := 0, locals := 26 } : Room) s m args below meth c 5 cs D kz_cl A (wq_G0 ad w) (wq_Q cs D kz_cl A (wq_G0 ad w) rt xt below s 0 0) 66 (kt_M_accept_66 rt xt K) := by
      refine wq_iconst_ok h0 kd_M_accept_66 (by decide +kernel) ?_
      exact hb_67
    have hb_46 : wq_Snd p l e ({ frames := 1, cells := 0, slots := 0, locals := 26 } : Room) s m args below meth c 5 cs D kz_cl A (wq_G0 ad w) (wq_Q cs D kz_cl A (wq_G0 ad w) rt xt below s 0 0) 46 (kt_M_accept_46 rt xt K) := by
      refine wq_aload_n_ok h0 kd_M_accept_46 rfl ?_
      refine wq_get_ok (wq_getOK h0 hts ki_M hown hK (ci := 9) rfl 56 (Nat.le_of_ble_eq_true rfl) kw_1038 rfl) kd_M_accept_47 ?_
      refine wq_aload_n_ok h0 kd_M_accept_50 rfl ?_
      refine wq_get_ok (wq_getOK h0 hts ki_M hown hK (ci := 9) rfl 38 (Nat.le_of_ble_eq_true rfl) kw_1020 rfl) kd_M_accept_51 ?_
      refine wq_iload_n_ok h0 kd_M_accept_54 rfl ?_
      refine wq_iald_ok h0 hK kd_M_accept_55 ?_
      refine wq_iadd_ok h0 kd_M_accept_56 ?_
      refine wq_bipush_ok h0 kd_M_accept_57 (by decide +kernel) ?_
      refine wq_icmp_le_ok (tgt := 66) h0 kd_M_accept_59 (by decide) ?_ ?_
      · exact hb_66
      refine wq_iconst_ok h0 kd_M_accept_62 (by decide +kernel) ?_
      refine wq_goto_ok (tgt := 67) h0 kd_M_accept_63 (by decide) ?_
      exact hb_67
    have hb_34 : wq_Snd p l e ({ frames := 1, cells := 0, slots := 0, locals := 26 } : Room) s m args below meth c 5 cs D kz_cl A (wq_G0 ad w) (wq_Q cs D kz_cl A (wq_G0 ad w) rt xt below s 0 0) 34 (kt_M_accept_34 rt xt K) := by
      refine wq_aload_n_ok h0 kd_M_accept_34 rfl ?_
      refine wq_iload_n_ok h0 kd_M_accept_35 rfl ?_
      refine wq_call_ok hA (wq_runV (ci := 9) ⟨h0.1, h0.2, hml, hown, hts⟩ (wq_no_ok (y := ({ cls := "BorderDeskModel", name := "find", desc := "(I)Z" } : Jvm.MethodName)) (ws := kw_T) (rm := { frames := 0, cells := 0, slots := 0, locals := 0 }) (mc := 0) (ms := 0)) ⟨(wq_cB hts kw_G kw_1330 kw_10 kw_1327 ⟨by decide +kernel, by decide +kernel, by decide +kernel⟩ rfl rfl ⟨Nat.le_of_ble_eq_true rfl, Nat.le_of_ble_eq_true rfl⟩), hts _ kw_1329, hts _ kw_s43⟩ rfl rfl hK hZ hN hA kd_M_accept_36) (wq_xout_ok hnt hlk) ?_
      refine wq_if_ne_ok (tgt := 46) h0 kd_M_accept_39 (by decide) ?_ ?_
      · exact hb_46
      refine wq_iconst_ok h0 kd_M_accept_42 (by decide +kernel) ?_
      refine wq_goto_ok (tgt := 67) h0 kd_M_accept_43 (by decide) ?_
      exact hb_67
    have hb_13 : wq_Snd p l e ({ frames := 1, cells := 0, slots := 0, locals := 26 } : Room) s m args below meth c 5 cs D kz_cl A (wq_G0 ad w) (wq_Q cs D kz_cl A (wq_G0 ad w) rt xt below s 0 0) 13 (kt_M_accept_13 rt xt K) := by
      refine wq_aload_n_ok h0 kd_M_accept_13 rfl ?_
      refine wq_get_ok (wq_getOK h0 hts ki_M hown hK (ci := 9) rfl 40 (Nat.le_of_ble_eq_true rfl) kw_1022 rfl) kd_M_accept_14 ?_
      refine wq_iload_n_ok h0 kd_M_accept_17 rfl ?_
      refine wq_zald_ok h0 hK kd_M_accept_18 ?_
      refine wq_if_ne_ok (tgt := 30) h0 kd_M_accept_19 (by decide) ?_ ?_
      · exact hb_30
      refine wq_aload_n_ok h0 kd_M_accept_22 rfl ?_
      refine wq_iload_n_ok h0 kd_M_accept_23 rfl ?_
      refine wq_call_ok hA (wq_runV (ci := 9) ⟨h0.1, h0.2, hml, hown, hts⟩ (wq_no_ok (y := ({ cls := "BorderDeskModel", name := "isLate", desc := "(I)Z" } : Jvm.MethodName)) (ws := kw_T) (rm := { frames := 0, cells := 0, slots := 0, locals := 0 }) (mc := 0) (ms := 0)) ⟨(wq_cB hts kw_G kw_1360 kw_10 kw_1357 ⟨by decide +kernel, by decide +kernel, by decide +kernel⟩ rfl rfl ⟨Nat.le_of_ble_eq_true rfl, Nat.le_of_ble_eq_true rfl⟩), hts _ kw_1359, hts _ kw_s49⟩ rfl rfl hK hZ hN hA kd_M_accept_24) (wq_xout_ok hnt hlk) ?_
      refine wq_if_eq_ok (tgt := 34) h0 kd_M_accept_27 (by decide) ?_ ?_
      · exact hb_34
      exact hb_30
    have hb_0 : wq_Snd p l e ({ frames := 1, cells := 0, slots := 0, locals := 26 } : Room) s m args below meth c 5 cs D kz_cl A (wq_G0 ad w) (wq_Q cs D kz_cl A (wq_G0 ad w) rt xt below s 0 0) 0 (kt_M_accept_0 rt xt K) := by
      refine wq_aload_n_ok h0 kd_M_accept_0 rfl ?_
      refine wq_aload_n_ok h0 kd_M_accept_1 rfl ?_
      refine wq_iload_n_ok h0 kd_M_accept_2 rfl ?_
      refine wq_call_ok hA (wq_runV (ci := 9) ⟨h0.1, h0.2, hml, hown, hts⟩ (kv_M_isDeclaration hl) ⟨(wq_cB hts kw_G kw_1300 kw_10 kw_1297 ⟨by decide +kernel, by decide +kernel, by decide +kernel⟩ rfl rfl ⟨Nat.le_of_ble_eq_true rfl, Nat.le_of_ble_eq_true rfl⟩), hts _ kw_1299, hts _ kw_s39⟩ rfl rfl hK hZ hN hA kd_M_accept_3) (wq_xout_ok hnt hlk) ?_
      refine wq_if_ne_ok (tgt := 13) h0 kd_M_accept_6 (by decide) ?_ ?_
      · exact hb_13
      refine wq_iconst_ok h0 kd_M_accept_9 (by decide +kernel) ?_
      refine wq_goto_ok (tgt := 67) h0 kd_M_accept_10 (by decide) ?_
      exact hb_67
    refine ⟨?_, hb_0⟩
    exact List.forall_mem_cons.mpr ⟨hb_95, fun _ h => absurd h List.not_mem_nil⟩
  have hun : ∀ (n pc : Nat), pc ∈ [95] → wq_Snd p l e ({ frames := 1, cells := 0, slots := 0, locals := 26 } : Room) s m args below meth c 5 cs D kz_cl A (wq_G0 ad w) (wq_Q cs D kz_cl A (wq_G0 ad w) rt xt below s 0 0) pc (ku_M_accept rt xt n pc) := by
    intro n
    induction n with
    | zero => intro pc _ L S w9 n1 n2 h; exact h.elim
    | succ n ih => intro pc hpc; exact (hall (ku_M_accept rt xt n) ih).1 pc hpc
  exact (hall (ku_M_accept rt xt 40) (hun 40)).2 _ _ _ _ _ (wq_sp_t hsp)
-- BorderDeskModel.amend(IIII)J
def kt_M_amend_280 (rt : Option wq_V → wq_W → Prop) (xt : Nat → wq_W → Prop) (K : Nat → wq_T) : wq_T := (wq_aload 0 (wq_iload 1 (wq_call (wq_rv 9 wq_no) 2 0 0 0 0 (wq_xout 0 0 xt) (wq_lstore 7 (wq_aload 0 (wq_iload 1 (wq_call (wq_rv 9 wq_no) 2 0 0 0 0 (wq_xout 0 0 xt) (wq_iconst (nI 4) (wq_iload 1 (wq_i2 (fun x y => x * y) (wq_istore 9 (K 297))))))))))))
def kt_M_amend_265 (rt : Option wq_V → wq_W → Prop) (xt : Nat → wq_W → Prop) (K : Nat → wq_T) : wq_T := (wq_aload 0 (wq_get 9 54 (wq_iload 7 (wq_iload 9 (wq_iast (wq_iinc 7 (nI 1) (K 95)))))))
def kt_M_amend_218 (rt : Option wq_V → wq_W → Prop) (xt : Nat → wq_W → Prop) (K : Nat → wq_T) : wq_T := (wq_istore 9 (wq_aload 0 (wq_get 9 49 (wq_iload 8 (wq_iald (wq_f1 (fun x => x < 0) (kt_M_amend_265 rt xt K) (wq_aload 0 (wq_get 9 25 (wq_aload 0 (wq_get 9 49 (wq_iload 8 (wq_iald (wq_aload 0 (wq_get 9 25 (wq_aload 0 (wq_get 9 49 (wq_iload 8 (wq_iald (wq_iald (wq_aload 0 (wq_get 9 50 (wq_iload 8 (wq_iald (wq_i2 (fun x y => x + y) (wq_iload 9 (wq_i2 (fun x y => x - y) (wq_iast (kt_M_amend_265 rt xt K))))))))))))))))))))))))))))
def kt_M_amend_209 (rt : Option wq_V → wq_W → Prop) (xt : Nat → wq_W → Prop) (K : Nat → wq_T) : wq_T := (wq_aload 0 (wq_get 9 45 (wq_iconst (nI 3) (wq_iload 8 (wq_i2 (fun x y => x * y) (wq_iald (kt_M_amend_218 rt xt K)))))))
def kt_M_amend_180 (rt : Option wq_V → wq_W → Prop) (xt : Nat → wq_W → Prop) (K : Nat → wq_T) : wq_T := (wq_aload 0 (wq_get 9 50 (wq_iload 8 (wq_iald (wq_aload 0 (wq_get 9 45 (wq_iconst (nI 3) (wq_iload 8 (wq_i2 (fun x y => x * y) (wq_iald (wq_f2 (fun x y => y ≤ x) (kt_M_amend_209 rt xt K) (wq_aload 0 (wq_get 9 50 (wq_iload 8 (wq_iald (kt_M_amend_218 rt xt K))))))))))))))))
def kt_M_amend_156 (rt : Option wq_V → wq_W → Prop) (xt : Nat → wq_W → Prop) (K : Nat → wq_T) : wq_T := (wq_put 9 66 wq_isL (wq_aload 0 (wq_get 9 49 (wq_iload 8 (wq_iald (wq_aload 0 (wq_get 9 53 (wq_iload 7 (wq_iald (wq_f2 (fun x y => x = y) (kt_M_amend_180 rt xt K) (wq_iconst (nI 0) (kt_M_amend_218 rt xt K))))))))))))
def kt_M_amend_144 (rt : Option wq_V → wq_W → Prop) (xt : Nat → wq_W → Prop) (K : Nat → wq_T) : wq_T := (wq_aload 0 (wq_get 9 66 (wq_aload 0 (wq_get 9 51 (wq_iload 8 (wq_lald (wq_l2 (fun x y => x - y) (kt_M_amend_156 rt xt K))))))))
def kh_M_amend_95 (rt : Option wq_V → wq_W → Prop) (xt : Nat → wq_W → Prop) (K : Nat → wq_T) : wq_T := (wq_iload 7 (wq_aload 0 (wq_get 9 38 (wq_iload 1 (wq_iald (wq_f2 (fun x y => y ≤ x) (kt_M_amend_280 rt xt K) (wq_iconst (nI 4) (wq_iload 1 (wq_i2 (fun x y => x * y) (wq_iload 7 (wq_i2 (fun x y => x + y) (wq_istore 8 (wq_lload 5 (wq_aload 0 (wq_get 9 51 (wq_iload 8 (wq_lald (wq_l2 (fun x y => x + y) (wq_lstore 5 (wq_aload 0 (wq_aload 0 (wq_get 9 44 (wq_iload 8 (wq_zald (wq_f1 (fun x => x = 0) (kt_M_amend_144 rt xt K) (wq_aload 0 (wq_get 9 66 (kt_M_amend_156 rt xt K))))))))))))))))))))))))))))
def kt_M_amend_391 (rt : Option wq_V → wq_W → Prop) (xt : Nat → wq_W → Prop) (K : Nat → wq_T) : wq_T := (wq_lload 7 (wq_lload 5 (wq_l2 (fun x y => x - y) (wq_lreturn 0 0 rt))))
def kt_M_amend_382 (rt : Option wq_V → wq_W → Prop) (xt : Nat → wq_W → Prop) (K : Nat → wq_T) : wq_T := (wq_put 9 66 wq_isL (wq_iinc 9 (nI 1) (K 297)))
def kt_M_amend_370 (rt : Option wq_V → wq_W → Prop) (xt : Nat → wq_W → Prop) (K : Nat → wq_T) : wq_T := (wq_aload 0 (wq_get 9 66 (wq_aload 0 (wq_get 9 51 (wq_iload 9 (wq_lald (wq_l2 (fun x y => x + y) (kt_M_amend_382 rt xt K))))))))
def kh_M_amend_297 (rt : Option wq_V → wq_W → Prop) (xt : Nat → wq_W → Prop) (K : Nat → wq_T) : wq_T := (wq_iload 9 (wq_iconst (nI 4) (wq_iload 1 (wq_i2 (fun x y => x * y) (wq_aload 0 (wq_get 9 38 (wq_iload 1 (wq_iald (wq_i2 (fun x y => x + y) (wq_f2 (fun x y => y ≤ x) (kt_M_amend_391 rt xt K) (wq_aload 0 (wq_get 9 58 (wq_aload 0 (wq_get 9 48 (wq_iload 9 (wq_iald (wq_aload 0 (wq_get 9 45 (wq_iconst (nI 3) (wq_iload 9 (wq_i2 (fun x y => x * y) (wq_iald (wq_iast (wq_aload 0 (wq_get 9 60 (wq_aload 0 (wq_get 9 48 (wq_iload 9 (wq_iald (wq_aload 0 (wq_get 9 51 (wq_iload 9 (wq_lald (wq_last (wq_aload 0 (wq_aload 0 (wq_get 9 44 (wq_iload 9 (wq_zald (wq_f1 (fun x => x = 0) (kt_M_amend_370 rt xt K) (wq_aload 0 (wq_get 9 66 (kt_M_amend_382 rt xt K)))))))))))))))))))))))))))))))))))))))))))
def kt_M_amend_69 (rt : Option wq_V → wq_W → Prop) (xt : Nat → wq_W → Prop) (K : Nat → wq_T) : wq_T := (wq_aload 0 (wq_get 9 45 (wq_iconst (nI 3) (wq_iconst (nI 4) (wq_iload 1 (wq_i2 (fun x y => x * y) (wq_iload 2 (wq_i2 (fun x y => x + y) (wq_i2 (fun x y => x * y) (wq_iload 3 (wq_i2 (fun x y => x + y) (wq_iload 4 (wq_iast (wq_lconst (0 : Int64) (wq_lstore 5 (wq_aload 0 (wq_call (wq_rv 9 wq_no) 1 0 0 0 0 (wq_xout 0 0 xt) (wq_iconst (nI 0) (wq_istore 7 (K 95))))))))))))))))))))
def kt_M_amend_57 (rt : Option wq_V → wq_W → Prop) (xt : Nat → wq_W → Prop) (K : Nat → wq_T) : wq_T := (wq_put 9 0 wq_isI (wq_aload 0 (wq_get 9 0 (wq_f1 (fun x => x ≤ 0) (kt_M_amend_69 rt xt K) (wq_lconst (0 : Int64) (wq_lreturn 0 0 rt))))))
def kt_M_amend_28 (rt : Option wq_V → wq_W → Prop) (xt : Nat → wq_W → Prop) (K : Nat → wq_T) : wq_T := (wq_iconst (nI 1) (kt_M_amend_57 rt xt K))
def kt_M_amend_56 (rt : Option wq_V → wq_W → Prop) (xt : Nat → wq_W → Prop) (K : Nat → wq_T) : wq_T := (wq_iconst (nI 0) (kt_M_amend_57 rt xt K))
def kt_M_amend_44 (rt : Option wq_V → wq_W → Prop) (xt : Nat → wq_W → Prop) (K : Nat → wq_T) : wq_T := (wq_aload 0 (wq_iload 1 (wq_call (wq_rv 9 wq_no) 2 0 0 0 0 (wq_xout 0 0 xt) (wq_f1 (fun x => x = 0) (wq_iconst (nI 3) (kt_M_amend_57 rt xt K)) (kt_M_amend_56 rt xt K)))))
def kt_M_amend_32 (rt : Option wq_V → wq_W → Prop) (xt : Nat → wq_W → Prop) (K : Nat → wq_T) : wq_T := (wq_aload 0 (wq_iload 1 (wq_call (wq_rv 9 wq_no) 2 0 0 0 0 (wq_xout 0 0 xt) (wq_f1 (fun x => x = 0) (wq_iconst (nI 2) (kt_M_amend_57 rt xt K)) (kt_M_amend_44 rt xt K)))))
def kt_M_amend_0 (rt : Option wq_V → wq_W → Prop) (xt : Nat → wq_W → Prop) (K : Nat → wq_T) : wq_T := (wq_aload 0 (wq_aload 0 (wq_iload 1 (wq_iload 2 (wq_call (wq_rv 9 ks_M_isLine) 3 0 0 0 0 (wq_xout 0 0 xt) (wq_f1 (fun x => x = 0) (kt_M_amend_28 rt xt K) (wq_iload 3 (wq_iconst (nI 0) (wq_iconst (nI 2) (wq_call ks_M_within 3 0 0 0 0 (wq_xout 0 0 xt) (wq_f1 (fun x => x = 0) (kt_M_amend_28 rt xt K) (wq_iload 3 (wq_iload 4 (wq_call ks_M_isField 2 0 0 0 0 (wq_xout 0 0 xt) (wq_f1 (fun x => x = 0) (kt_M_amend_28 rt xt K) (kt_M_amend_32 rt xt K))))))))))))))))
def ku_M_amend (rt : Option wq_V → wq_W → Prop) (xt : Nat → wq_W → Prop) : Nat → Nat → wq_T
  | 0, _ => fun _ _ _ _ _ => False
  | n + 1, pc => cond (Nat.beq pc 95) (kh_M_amend_95 rt xt (ku_M_amend rt xt n)) (cond (Nat.beq pc 297) (kh_M_amend_297 rt xt (ku_M_amend rt xt n)) (fun _ _ _ _ _ => False))
def ks_M_amend : wq_S := wq_sp 10 (fun rt xt => kt_M_amend_0 rt xt (ku_M_amend rt xt 40))
set_option maxRecDepth 100000 in
set_option maxHeartbeats 4000000 in
theorem kv_M_amend {l : Launch} (hl : l.stackTraces = false) : wq_Vld l kz_cl ky_M_amend kw_T ({ frames := 2, cells := 0, slots := 0, locals := 43 }) wq_G0 ks_M_amend 0 0 := by
  refine wq_method (cc := kc_M_amend) (maxL := 10) (ret := (some .long)) (by decide) kw_1372 (fun _ _ => rfl) wq_sp_sz ?_
  intro p e s m args below meth c cs D ad as w rt xt hF hnt hsp
  obtain ⟨h0, hr, hts, hown, hlk, hnm, hml, hK, hZ, hN, hA⟩ := hF
  have hown : s.vm.findClass "BorderDeskModel" = some m.cls := hown
  obtain ⟨A, hAe⟩ : ∃ A, A = wq_A ad w s.heap.size := ⟨_, rfl⟩
  rw [← hAe] at hZ hA ⊢
  have hall : ∀ K : Nat → wq_T, (∀ pc, pc ∈ [95, 297] → wq_Snd p l e ({ frames := 2, cells := 0, slots := 0, locals := 43 } : Room) s m args below meth c 10 cs D kz_cl A (wq_G0 ad w) (wq_Q cs D kz_cl A (wq_G0 ad w) rt xt below s 0 0) pc (K pc)) → (∀ pc, pc ∈ [95, 297] → wq_Snd p l e ({ frames := 2, cells := 0, slots := 0, locals := 43 } : Room) s m args below meth c 10 cs D kz_cl A (wq_G0 ad w) (wq_Q cs D kz_cl A (wq_G0 ad w) rt xt below s 0 0) pc (cond (Nat.beq pc 95) (kh_M_amend_95 rt xt K) (cond (Nat.beq pc 297) (kh_M_amend_297 rt xt K) (fun _ _ _ _ _ => False)))) ∧ wq_Snd p l e ({ frames := 2, cells := 0, slots := 0, locals := 43 } : Room) s m args below meth c 10 cs D kz_cl A (wq_G0 ad w) (wq_Q cs D kz_cl A (wq_G0 ad w) rt xt below s 0 0) 0 (kt_M_amend_0 rt xt K) := by
    intro K hKc
    have hb_280 : wq_Snd p l e ({ frames := 2, cells := 0, slots := 0, locals := 43 } : Room) s m args below meth c 10 cs D kz_cl A (wq_G0 ad w) (wq_Q cs D kz_cl A (wq_G0 ad w) rt xt below s 0 0) 280 (kt_M_amend_280 rt xt K) := by
      refine wq_aload_n_ok h0 kd_M_amend_280 rfl ?_
      refine wq_iload_n_ok h0 kd_M_amend_281 rfl ?_
      refine wq_call_ok hA (wq_runV (ci := 9) ⟨h0.1, h0.2, hml, hown, hts⟩ (wq_no_ok (y := ({ cls := "BorderDeskModel", name := "workOut", desc := "(I)J" } : Jvm.MethodName)) (ws := kw_T) (rm := { frames := 0, cells := 0, slots := 0, locals := 0 }) (mc := 0) (ms := 0)) ⟨(wq_cB hts kw_G kw_1346 kw_10 kw_1343 ⟨by decide +kernel, by decide +kernel, by decide +kernel⟩ rfl rfl ⟨Nat.le_of_ble_eq_true rfl, Nat.le_of_ble_eq_true rfl⟩), hts _ kw_1345, hts _ kw_s47⟩ rfl rfl hK hZ hN hA kd_M_amend_282) (wq_xout_ok hnt hlk) ?_
      refine wq_lstore_ok h0 kd_M_amend_285 (Nat.le_of_ble_eq_true rfl) ?_
      refine wq_aload_n_ok h0 kd_M_amend_287 rfl ?_
      refine wq_iload_n_ok h0 kd_M_amend_288 rfl ?_
      refine wq_call_ok hA (wq_runV (ci := 9) ⟨h0.1, h0.2, hml, hown, hts⟩ (wq_no_ok (y := ({ cls := "BorderDeskModel", name := "book", desc := "(I)V" } : Jvm.MethodName)) (ws := kw_T) (rm := { frames := 0, cells := 0, slots := 0, locals := 0 }) (mc := 0) (ms := 0)) ⟨(wq_cB hts kw_G kw_1364 kw_10 kw_1361 ⟨by decide +kernel, by decide +kernel, by decide +kernel⟩ rfl rfl ⟨Nat.le_of_ble_eq_true rfl, Nat.le_of_ble_eq_true rfl⟩), hts _ kw_1363, hts _ kw_s50⟩ rfl rfl hK hZ hN hA kd_M_amend_289) (wq_xout_ok hnt hlk) ?_
      refine wq_iconst_ok h0 kd_M_amend_292 (by decide +kernel) ?_
      refine wq_iload_n_ok h0 kd_M_amend_293 rfl ?_
      refine wq_imul_ok h0 kd_M_amend_294 ?_
      refine wq_istore_ok h0 kd_M_amend_295 (Nat.le_of_ble_eq_true rfl) ?_
      exact hKc 297 (by decide)
    have hb_265 : wq_Snd p l e ({ frames := 2, cells := 0, slots := 0, locals := 43 } : Room) s m args below meth c 10 cs D kz_cl A (wq_G0 ad w) (wq_Q cs D kz_cl A (wq_G0 ad w) rt xt below s 0 0) 265 (kt_M_amend_265 rt xt K) := by
      refine wq_aload_n_ok h0 kd_M_amend_265 rfl ?_
      refine wq_get_ok (wq_getOK h0 hts ki_M hown hK (ci := 9) rfl 54 (Nat.le_of_ble_eq_true rfl) kw_1036 rfl) kd_M_amend_266 ?_
      refine wq_iload_ok h0 kd_M_amend_269 ?_
      refine wq_iload_ok h0 kd_M_amend_271 ?_
      refine wq_iast_ok h0 hK kd_M_amend_273 ?_
      refine wq_iinc_ok h0 kd_M_amend_274 (by decide +kernel) (Nat.le_of_ble_eq_true rfl) ?_
      refine wq_goto_ok (tgt := 95) h0 kd_M_amend_277 (by decide) ?_
      exact hKc 95 (by decide)
    have hb_218 : wq_Snd p l e ({ frames := 2, cells := 0, slots := 0, locals := 43 } : Room) s m args below meth c 10 cs D kz_cl A (wq_G0 ad w) (wq_Q cs D kz_cl A (wq_G0 ad w) rt xt below s 0 0) 218 (kt_M_amend_218 rt xt K) := by
      refine wq_istore_ok h0 kd_M_amend_218 (Nat.le_of_ble_eq_true rfl) ?_
      refine wq_aload_n_ok h0 kd_M_amend_220 rfl ?_
      refine wq_get_ok (wq_getOK h0 hts ki_M hown hK (ci := 9) rfl 49 (Nat.le_of_ble_eq_true rfl) kw_1031 rfl) kd_M_amend_221 ?_
      refine wq_iload_ok h0 kd_M_amend_224 ?_
      refine wq_iald_ok h0 hK kd_M_amend_226 ?_
      refine wq_if_lt_ok (tgt := 265) h0 kd_M_amend_227 (by decide) ?_ ?_
      · exact hb_265
      refine wq_aload_n_ok h0 kd_M_amend_230 rfl ?_
      refine wq_get_ok (wq_getOK h0 hts ki_M hown hK (ci := 9) rfl 25 (Nat.le_of_ble_eq_true rfl) kw_1007 rfl) kd_M_amend_231 ?_
      refine wq_aload_n_ok h0 kd_M_amend_234 rfl ?_
      refine wq_get_ok (wq_getOK h0 hts ki_M hown hK (ci := 9) rfl 49 (Nat.le_of_ble_eq_true rfl) kw_1031 rfl) kd_M_amend_235 ?_
      refine wq_iload_ok h0 kd_M_amend_238 ?_
      refine wq_iald_ok h0 hK kd_M_amend_240 ?_
      refine wq_aload_n_ok h0 kd_M_amend_241 rfl ?_
      refine wq_get_ok (wq_getOK h0 hts ki_M hown hK (ci := 9) rfl 25 (Nat.le_of_ble_eq_true rfl) kw_1007 rfl) kd_M_amend_242 ?_
      refine wq_aload_n_ok h0 kd_M_amend_245 rfl ?_
      refine wq_get_ok (wq_getOK h0 hts ki_M hown hK (ci := 9) rfl 49 (Nat.le_of_ble_eq_true rfl) kw_1031 rfl) kd_M_amend_246 ?_
      refine wq_iload_ok h0 kd_M_amend_249 ?_
      refine wq_iald_ok h0 hK kd_M_amend_251 ?_
      refine wq_iald_ok h0 hK kd_M_amend_252 ?_
      refine wq_aload_n_ok h0 kd_M_amend_253 rfl ?_
      refine wq_get_ok (wq_getOK h0 hts ki_M hown hK (ci := 9) rfl 50 (Nat.le_of_ble_eq_true rfl) kw_1032 rfl) kd_M_amend_254 ?_
      refine wq_iload_ok h0 kd_M_amend_257 ?_
      refine wq_iald_ok h0 hK kd_M_amend_259 ?_
      refine wq_iadd_ok h0 kd_M_amend_260 ?_
      refine wq_iload_ok h0 kd_M_amend_261 ?_
      refine wq_isub_ok h0 kd_M_amend_263 ?_
      refine wq_iast_ok h0 hK kd_M_amend_264 ?_
      exact hb_265
    have hb_209 : wq_Snd p l e ({ frames := 2, cells := 0, slots := 0, locals := 43 } : Room) s m args below meth c 10 cs D kz_cl A (wq_G0 ad w) (wq_Q cs D kz_cl A (wq_G0 ad w) rt xt below s 0 0) 209 (kt_M_amend_209 rt xt K) := by
      refine wq_aload_n_ok h0 kd_M_amend_209 rfl ?_
      refine wq_get_ok (wq_getOK h0 hts ki_M hown hK (ci := 9) rfl 45 (Nat.le_of_ble_eq_true rfl) kw_1027 rfl) kd_M_amend_210 ?_
      refine wq_iconst_ok h0 kd_M_amend_213 (by decide +kernel) ?_
      refine wq_iload_ok h0 kd_M_amend_214 ?_
      refine wq_imul_ok h0 kd_M_amend_216 ?_
      refine wq_iald_ok h0 hK kd_M_amend_217 ?_
      exact hb_218
    have hb_180 : wq_Snd p l e ({ frames := 2, cells := 0, slots := 0, locals := 43 } : Room) s m args below meth c 10 cs D kz_cl A (wq_G0 ad w) (wq_Q cs D kz_cl A (wq_G0 ad w) rt xt below s 0 0) 180 (kt_M_amend_180 rt xt K) := by
      refine wq_aload_n_ok h0 kd_M_amend_180 rfl ?_
      refine wq_get_ok (wq_getOK h0 hts ki_M hown hK (ci := 9) rfl 50 (Nat.le_of_ble_eq_true rfl) kw_1032 rfl) kd_M_amend_181 ?_
      refine wq_iload_ok h0 kd_M_amend_184 ?_
      refine wq_iald_ok h0 hK kd_M_amend_186 ?_
      refine wq_aload_n_ok h0 kd_M_amend_187 rfl ?_
      refine wq_get_ok (wq_getOK h0 hts ki_M hown hK (ci := 9) rfl 45 (Nat.le_of_ble_eq_true rfl) kw_1027 rfl) kd_M_amend_188 ?_
      refine wq_iconst_ok h0 kd_M_amend_191 (by decide +kernel) ?_
      refine wq_iload_ok h0 kd_M_amend_192 ?_
      refine wq_imul_ok h0 kd_M_amend_194 ?_
      refine wq_iald_ok h0 hK kd_M_amend_195 ?_
      refine wq_icmp_ge_ok (tgt := 209) h0 kd_M_amend_196 (by decide) ?_ ?_
      · exact hb_209
      refine wq_aload_n_ok h0 kd_M_amend_199 rfl ?_
      refine wq_get_ok (wq_getOK h0 hts ki_M hown hK (ci := 9) rfl 50 (Nat.le_of_ble_eq_true rfl) kw_1032 rfl) kd_M_amend_200 ?_
      refine wq_iload_ok h0 kd_M_amend_203 ?_
      refine wq_iald_ok h0 hK kd_M_amend_205 ?_
      refine wq_goto_ok (tgt := 218) h0 kd_M_amend_206 (by decide) ?_
      exact hb_218
    have hb_156 : wq_Snd p l e ({ frames := 2, cells := 0, slots := 0, locals := 43 } : Room) s m args below meth c 10 cs D kz_cl A (wq_G0 ad w) (wq_Q cs D kz_cl A (wq_G0 ad w) rt xt below s 0 0) 156 (kt_M_amend_156 rt xt K) := by
      refine wq_put_ok (wq_putOK h0 hts ki_M ka_M kb_M kn_M hown hK (ci := 9) rfl 66 (Nat.le_of_ble_eq_true rfl) kw_1048 rfl (Or.inl rfl) wq_okL) kd_M_amend_156 ?_
      refine wq_aload_n_ok h0 kd_M_amend_159 rfl ?_
      refine wq_get_ok (wq_getOK h0 hts ki_M hown hK (ci := 9) rfl 49 (Nat.le_of_ble_eq_true rfl) kw_1031 rfl) kd_M_amend_160 ?_
      refine wq_iload_ok h0 kd_M_amend_163 ?_
      refine wq_iald_ok h0 hK kd_M_amend_165 ?_
      refine wq_aload_n_ok h0 kd_M_amend_166 rfl ?_
      refine wq_get_ok (wq_getOK h0 hts ki_M hown hK (ci := 9) rfl 53 (Nat.le_of_ble_eq_true rfl) kw_1035 rfl) kd_M_amend_167 ?_
      refine wq_iload_ok h0 kd_M_amend_170 ?_
      refine wq_iald_ok h0 hK kd_M_amend_172 ?_
      refine wq_icmp_eq_ok (tgt := 180) h0 kd_M_amend_173 (by decide) ?_ ?_
      · exact hb_180
      refine wq_iconst_ok h0 kd_M_amend_176 (by decide +kernel) ?_
      refine wq_goto_ok (tgt := 218) h0 kd_M_amend_177 (by decide) ?_
      exact hb_218
    have hb_144 : wq_Snd p l e ({ frames := 2, cells := 0, slots := 0, locals := 43 } : Room) s m args below meth c 10 cs D kz_cl A (wq_G0 ad w) (wq_Q cs D kz_cl A (wq_G0 ad w) rt xt below s 0 0) 144 (kt_M_amend_144 rt xt K) := by
      refine wq_aload_n_ok h0 kd_M_amend_144 rfl ?_
      refine wq_get_ok (wq_getOK h0 hts ki_M hown hK (ci := 9) rfl 66 (Nat.le_of_ble_eq_true rfl) kw_1048 rfl) kd_M_amend_145 ?_
      refine wq_aload_n_ok h0 kd_M_amend_148 rfl ?_
      refine wq_get_ok (wq_getOK h0 hts ki_M hown hK (ci := 9) rfl 51 (Nat.le_of_ble_eq_true rfl) kw_1033 rfl) kd_M_amend_149 ?_
      refine wq_iload_ok h0 kd_M_amend_152 ?_
      refine wq_lald_ok h0 hK kd_M_amend_154 ?_
      refine wq_lsub_ok h0 kd_M_amend_155 ?_
      exact hb_156
    have hb_95 : wq_Snd p l e ({ frames := 2, cells := 0, slots := 0, locals := 43 } : Room) s m args below meth c 10 cs D kz_cl A (wq_G0 ad w) (wq_Q cs D kz_cl A (wq_G0 ad w) rt xt below s 0 0) 95 (kh_M_amend_95 rt xt K) := by
      refine wq_iload_ok h0 kd_M_amend_95 ?_
      refine wq_aload_n_ok h0 kd_M_amend_97 rfl ?_
      refine wq_get_ok (wq_getOK h0 hts ki_M hown hK (ci := 9) rfl 38 (Nat.le_of_ble_eq_true rfl) kw_1020 rfl) kd_M_amend_98 ?_
      refine wq_iload_n_ok h0 kd_M_amend_101 rfl ?_
      refine wq_iald_ok h0 hK kd_M_amend_102 ?_
      refine wq_icmp_ge_ok (tgt := 280) h0 kd_M_amend_103 (by decide) ?_ ?_
      · exact hb_280
      refine wq_iconst_ok h0 kd_M_amend_106 (by decide +kernel) ?_
      refine wq_iload_n_ok h0 kd_M_amend_107 rfl ?_
      refine wq_imul_ok h0 kd_M_amend_108 ?_
      refine wq_iload_ok h0 kd_M_amend_109 ?_
      refine wq_iadd_ok h0 kd_M_amend_111 ?_
      refine wq_istore_ok h0 kd_M_amend_112 (Nat.le_of_ble_eq_true rfl) ?_
      refine wq_lload_ok h0 kd_M_amend_114 ?_
      refine wq_aload_n_ok h0 kd_M_amend_116 rfl ?_
      refine wq_get_ok (wq_getOK h0 hts ki_M hown hK (ci := 9) rfl 51 (Nat.le_of_ble_eq_true rfl) kw_1033 rfl) kd_M_amend_117 ?_
      refine wq_iload_ok h0 kd_M_amend_120 ?_
      refine wq_lald_ok h0 hK kd_M_amend_122 ?_
      refine wq_ladd_ok h0 kd_M_amend_123 ?_
      refine wq_lstore_ok h0 kd_M_amend_124 (Nat.le_of_ble_eq_true rfl) ?_
      refine wq_aload_n_ok h0 kd_M_amend_126 rfl ?_
      refine wq_aload_n_ok h0 kd_M_amend_127 rfl ?_
      refine wq_get_ok (wq_getOK h0 hts ki_M hown hK (ci := 9) rfl 44 (Nat.le_of_ble_eq_true rfl) kw_1026 rfl) kd_M_amend_128 ?_
      refine wq_iload_ok h0 kd_M_amend_131 ?_
      refine wq_zald_ok h0 hK kd_M_amend_133 ?_
      refine wq_if_eq_ok (tgt := 144) h0 kd_M_amend_134 (by decide) ?_ ?_
      · exact hb_144
      refine wq_aload_n_ok h0 kd_M_amend_137 rfl ?_
      refine wq_get_ok (wq_getOK h0 hts ki_M hown hK (ci := 9) rfl 66 (Nat.le_of_ble_eq_true rfl) kw_1048 rfl) kd_M_amend_138 ?_
      refine wq_goto_ok (tgt := 156) h0 kd_M_amend_141 (by decide) ?_
      exact hb_156
    have hb_391 : wq_Snd p l e ({ frames := 2, cells := 0, slots := 0, locals := 43 } : Room) s m args below meth c 10 cs D kz_cl A (wq_G0 ad w) (wq_Q cs D kz_cl A (wq_G0 ad w) rt xt below s 0 0) 391 (kt_M_amend_391 rt xt K) := by
      refine wq_lload_ok h0 kd_M_amend_391 ?_
      refine wq_lload_ok h0 kd_M_amend_393 ?_
      refine wq_lsub_ok h0 kd_M_amend_395 ?_
      exact wq_lreturn_ok h0 hr hlk kd_M_amend_396
    have hb_382 : wq_Snd p l e ({ frames := 2, cells := 0, slots := 0, locals := 43 } : Room) s m args below meth c 10 cs D kz_cl A (wq_G0 ad w) (wq_Q cs D kz_cl A (wq_G0 ad w) rt xt below s 0 0) 382 (kt_M_amend_382 rt xt K) := by
      refine wq_put_ok (wq_putOK h0 hts ki_M ka_M kb_M kn_M hown hK (ci := 9) rfl 66 (Nat.le_of_ble_eq_true rfl) kw_1048 rfl (Or.inl rfl) wq_okL) kd_M_amend_382 ?_
      refine wq_iinc_ok h0 kd_M_amend_385 (by decide +kernel) (Nat.le_of_ble_eq_true rfl) ?_
      refine wq_goto_ok (tgt := 297) h0 kd_M_amend_388 (by decide) ?_
      exact hKc 297 (by decide)
    have hb_370 : wq_Snd p l e ({ frames := 2, cells := 0, slots := 0, locals := 43 } : Room) s m args below meth c 10 cs D kz_cl A (wq_G0 ad w) (wq_Q cs D kz_cl A (wq_G0 ad w) rt xt below s 0 0) 370 (kt_M_amend_370 rt xt K) := by
      refine wq_aload_n_ok h0 kd_M_amend_370 rfl ?_
      refine wq_get_ok (wq_getOK h0 hts ki_M hown hK (ci := 9) rfl 66 (Nat.le_of_ble_eq_true rfl) kw_1048 rfl) kd_M_amend_371 ?_
      refine wq_aload_n_ok h0 kd_M_amend_374 rfl ?_
      refine wq_get_ok (wq_getOK h0 hts ki_M hown hK (ci := 9) rfl 51 (Nat.le_of_ble_eq_true rfl) kw_1033 rfl) kd_M_amend_375 ?_
      refine wq_iload_ok h0 kd_M_amend_378 ?_
      refine wq_lald_ok h0 hK kd_M_amend_380 ?_
      refine wq_ladd_ok h0 kd_M_amend_381 ?_
      exact hb_382
    have hb_297 : wq_Snd p l e ({ frames := 2, cells := 0, slots := 0, locals := 43 } : Room) s m args below meth c 10 cs D kz_cl A (wq_G0 ad w) (wq_Q cs D kz_cl A (wq_G0 ad w) rt xt below s 0 0) 297 (kh_M_amend_297 rt xt K) := by
      refine wq_iload_ok h0 kd_M_amend_297 ?_
      refine wq_iconst_ok h0 kd_M_amend_299 (by decide +kernel) ?_
      refine wq_iload_n_ok h0 kd_M_amend_300 rfl ?_
      refine wq_imul_ok h0 kd_M_amend_301 ?_
      refine wq_aload_n_ok h0 kd_M_amend_302 rfl ?_
      refine wq_get_ok (wq_getOK h0 hts ki_M hown hK (ci := 9) rfl 38 (Nat.le_of_ble_eq_true rfl) kw_1020 rfl) kd_M_amend_303 ?_
      refine wq_iload_n_ok h0 kd_M_amend_306 rfl ?_
      refine wq_iald_ok h0 hK kd_M_amend_307 ?_
      refine wq_iadd_ok h0 kd_M_amend_308 ?_
      refine wq_icmp_ge_ok (tgt := 391) h0 kd_M_amend_309 (by decide) ?_ ?_
      · exact hb_391
      refine wq_aload_n_ok h0 kd_M_amend_312 rfl ?_
      refine wq_get_ok (wq_getOK h0 hts ki_M hown hK (ci := 9) rfl 58 (Nat.le_of_ble_eq_true rfl) kw_1040 rfl) kd_M_amend_313 ?_
      refine wq_aload_n_ok h0 kd_M_amend_316 rfl ?_
      refine wq_get_ok (wq_getOK h0 hts ki_M hown hK (ci := 9) rfl 48 (Nat.le_of_ble_eq_true rfl) kw_1030 rfl) kd_M_amend_317 ?_
      refine wq_iload_ok h0 kd_M_amend_320 ?_
      refine wq_iald_ok h0 hK kd_M_amend_322 ?_
      refine wq_aload_n_ok h0 kd_M_amend_323 rfl ?_
      refine wq_get_ok (wq_getOK h0 hts ki_M hown hK (ci := 9) rfl 45 (Nat.le_of_ble_eq_true rfl) kw_1027 rfl) kd_M_amend_324 ?_
      refine wq_iconst_ok h0 kd_M_amend_327 (by decide +kernel) ?_
      refine wq_iload_ok h0 kd_M_amend_328 ?_
      refine wq_imul_ok h0 kd_M_amend_330 ?_
      refine wq_iald_ok h0 hK kd_M_amend_331 ?_
      refine wq_iast_ok h0 hK kd_M_amend_332 ?_
      refine wq_aload_n_ok h0 kd_M_amend_333 rfl ?_
      refine wq_get_ok (wq_getOK h0 hts ki_M hown hK (ci := 9) rfl 60 (Nat.le_of_ble_eq_true rfl) kw_1042 rfl) kd_M_amend_334 ?_
      refine wq_aload_n_ok h0 kd_M_amend_337 rfl ?_
      refine wq_get_ok (wq_getOK h0 hts ki_M hown hK (ci := 9) rfl 48 (Nat.le_of_ble_eq_true rfl) kw_1030 rfl) kd_M_amend_338 ?_
      refine wq_iload_ok h0 kd_M_amend_341 ?_
      refine wq_iald_ok h0 hK kd_M_amend_343 ?_
      refine wq_aload_n_ok h0 kd_M_amend_344 rfl ?_
      refine wq_get_ok (wq_getOK h0 hts ki_M hown hK (ci := 9) rfl 51 (Nat.le_of_ble_eq_true rfl) kw_1033 rfl) kd_M_amend_345 ?_
      refine wq_iload_ok h0 kd_M_amend_348 ?_
      refine wq_lald_ok h0 hK kd_M_amend_350 ?_
      refine wq_last_ok h0 hK kd_M_amend_351 ?_
      refine wq_aload_n_ok h0 kd_M_amend_352 rfl ?_
      refine wq_aload_n_ok h0 kd_M_amend_353 rfl ?_
      refine wq_get_ok (wq_getOK h0 hts ki_M hown hK (ci := 9) rfl 44 (Nat.le_of_ble_eq_true rfl) kw_1026 rfl) kd_M_amend_354 ?_
      refine wq_iload_ok h0 kd_M_amend_357 ?_
      refine wq_zald_ok h0 hK kd_M_amend_359 ?_
      refine wq_if_eq_ok (tgt := 370) h0 kd_M_amend_360 (by decide) ?_ ?_
      · exact hb_370
      refine wq_aload_n_ok h0 kd_M_amend_363 rfl ?_
      refine wq_get_ok (wq_getOK h0 hts ki_M hown hK (ci := 9) rfl 66 (Nat.le_of_ble_eq_true rfl) kw_1048 rfl) kd_M_amend_364 ?_
      refine wq_goto_ok (tgt := 382) h0 kd_M_amend_367 (by decide) ?_
      exact hb_382
    have hb_69 : wq_Snd p l e ({ frames := 2, cells := 0, slots := 0, locals := 43 } : Room) s m args below meth c 10 cs D kz_cl A (wq_G0 ad w) (wq_Q cs D kz_cl A (wq_G0 ad w) rt xt below s 0 0) 69 (kt_M_amend_69 rt xt K) := by
      refine wq_aload_n_ok h0 kd_M_amend_69 rfl ?_
      refine wq_get_ok (wq_getOK h0 hts ki_M hown hK (ci := 9) rfl 45 (Nat.le_of_ble_eq_true rfl) kw_1027 rfl) kd_M_amend_70 ?_
      refine wq_iconst_ok h0 kd_M_amend_73 (by decide +kernel) ?_
      refine wq_iconst_ok h0 kd_M_amend_74 (by decide +kernel) ?_
      refine wq_iload_n_ok h0 kd_M_amend_75 rfl ?_
      refine wq_imul_ok h0 kd_M_amend_76 ?_
      refine wq_iload_n_ok h0 kd_M_amend_77 rfl ?_
      refine wq_iadd_ok h0 kd_M_amend_78 ?_
      refine wq_imul_ok h0 kd_M_amend_79 ?_
      refine wq_iload_n_ok h0 kd_M_amend_80 rfl ?_
      refine wq_iadd_ok h0 kd_M_amend_81 ?_
      refine wq_iload_ok h0 kd_M_amend_82 ?_
      refine wq_iast_ok h0 hK kd_M_amend_84 ?_
      refine wq_lconst_ok h0 kd_M_amend_85 (by decide +kernel) ?_
      refine wq_lstore_ok h0 kd_M_amend_86 (Nat.le_of_ble_eq_true rfl) ?_
      refine wq_aload_n_ok h0 kd_M_amend_88 rfl ?_
      refine wq_call_ok hA (wq_runV (ci := 9) ⟨h0.1, h0.2, hml, hown, hts⟩ (wq_no_ok (y := ({ cls := "BorderDeskModel", name := "mean", desc := "()V" } : Jvm.MethodName)) (ws := kw_T) (rm := { frames := 0, cells := 0, slots := 0, locals := 0 }) (mc := 0) (ms := 0)) ⟨(wq_cB hts kw_G kw_1342 kw_10 kw_1339 ⟨by decide +kernel, by decide +kernel, by decide +kernel⟩ rfl rfl ⟨Nat.le_of_ble_eq_true rfl, Nat.le_of_ble_eq_true rfl⟩), hts _ kw_1341, hts _ kw_s46⟩ rfl rfl hK hZ hN hA kd_M_amend_89) (wq_xout_ok hnt hlk) ?_
      refine wq_iconst_ok h0 kd_M_amend_92 (by decide +kernel) ?_
      refine wq_istore_ok h0 kd_M_amend_93 (Nat.le_of_ble_eq_true rfl) ?_
      exact hKc 95 (by decide)
    have hb_57 : wq_Snd p l e ({ frames := 2, cells := 0, slots := 0, locals := 43 } : Room) s m args below meth c 10 cs D kz_cl A (wq_G0 ad w) (wq_Q cs D kz_cl A (wq_G0 ad w) rt xt below s 0 0) 57 (kt_M_amend_57 rt xt K) := by
      refine wq_put_ok (wq_putOK h0 hts ki_M ka_M kb_M kn_M hown hK (ci := 9) rfl 0 (Nat.le_of_ble_eq_true rfl) kw_982 rfl (Or.inl rfl) wq_okI) kd_M_amend_57 ?_
      refine wq_aload_n_ok h0 kd_M_amend_60 rfl ?_
      refine wq_get_ok (wq_getOK h0 hts ki_M hown hK (ci := 9) rfl 0 (Nat.le_of_ble_eq_true rfl) kw_982 rfl) kd_M_amend_61 ?_
      refine wq_if_le_ok (tgt := 69) h0 kd_M_amend_64 (by decide) ?_ ?_
      · exact hb_69
      refine wq_lconst_ok h0 kd_M_amend_67 (by decide +kernel) ?_
      exact wq_lreturn_ok h0 hr hlk kd_M_amend_68
    have hb_28 : wq_Snd p l e ({ frames := 2, cells := 0, slots := 0, locals := 43 } : Room) s m args below meth c 10 cs D kz_cl A (wq_G0 ad w) (wq_Q cs D kz_cl A (wq_G0 ad w) rt xt below s 0 0) 28 (kt_M_amend_28 rt xt K) := by
      refine wq_iconst_ok h0 kd_M_amend_28 (by decide +kernel) ?_
      refine wq_goto_ok (tgt := 57) h0 kd_M_amend_29 (by decide) ?_
      exact hb_57
    have hb_56 : wq_Snd p l e ({ frames := 2, cells := 0, slots := 0, locals := 43 } : Room) s m args below meth c 10 cs D kz_cl A (wq_G0 ad w) (wq_Q cs D kz_cl A (wq_G0 ad w) rt xt below s 0 0) 56 (kt_M_amend_56 rt xt K) := by
      refine wq_iconst_ok h0 kd_M_amend_56 (by decide +kernel) ?_
      exact hb_57
    have hb_44 : wq_Snd p l e ({ frames := 2, cells := 0, slots := 0, locals := 43 } : Room) s m args below meth c 10 cs D kz_cl A (wq_G0 ad w) (wq_Q cs D kz_cl A (wq_G0 ad w) rt xt below s 0 0) 44 (kt_M_amend_44 rt xt K) := by
      refine wq_aload_n_ok h0 kd_M_amend_44 rfl ?_
      refine wq_iload_n_ok h0 kd_M_amend_45 rfl ?_
      refine wq_call_ok hA (wq_runV (ci := 9) ⟨h0.1, h0.2, hml, hown, hts⟩ (wq_no_ok (y := ({ cls := "BorderDeskModel", name := "find", desc := "(I)Z" } : Jvm.MethodName)) (ws := kw_T) (rm := { frames := 0, cells := 0, slots := 0, locals := 0 }) (mc := 0) (ms := 0)) ⟨(wq_cB hts kw_G kw_1330 kw_10 kw_1327 ⟨by decide +kernel, by decide +kernel, by decide +kernel⟩ rfl rfl ⟨Nat.le_of_ble_eq_true rfl, Nat.le_of_ble_eq_true rfl⟩), hts _ kw_1329, hts _ kw_s43⟩ rfl rfl hK hZ hN hA kd_M_amend_46) (wq_xout_ok hnt hlk) ?_
      refine wq_if_ne_ok (tgt := 56) h0 kd_M_amend_49 (by decide) ?_ ?_
      · exact hb_56
      refine wq_iconst_ok h0 kd_M_amend_52 (by decide +kernel) ?_
      refine wq_goto_ok (tgt := 57) h0 kd_M_amend_53 (by decide) ?_
      exact hb_57
    have hb_32 : wq_Snd p l e ({ frames := 2, cells := 0, slots := 0, locals := 43 } : Room) s m args below meth c 10 cs D kz_cl A (wq_G0 ad w) (wq_Q cs D kz_cl A (wq_G0 ad w) rt xt below s 0 0) 32 (kt_M_amend_32 rt xt K) := by
      refine wq_aload_n_ok h0 kd_M_amend_32 rfl ?_
      refine wq_iload_n_ok h0 kd_M_amend_33 rfl ?_
      refine wq_call_ok hA (wq_runV (ci := 9) ⟨h0.1, h0.2, hml, hown, hts⟩ (wq_no_ok (y := ({ cls := "BorderDeskModel", name := "isWhole", desc := "(I)Z" } : Jvm.MethodName)) (ws := kw_T) (rm := { frames := 0, cells := 0, slots := 0, locals := 0 }) (mc := 0) (ms := 0)) ⟨(wq_cB hts kw_G kw_1376 kw_10 kw_1373 ⟨by decide +kernel, by decide +kernel, by decide +kernel⟩ rfl rfl ⟨Nat.le_of_ble_eq_true rfl, Nat.le_of_ble_eq_true rfl⟩), hts _ kw_1375, hts _ kw_s52⟩ rfl rfl hK hZ hN hA kd_M_amend_34) (wq_xout_ok hnt hlk) ?_
      refine wq_if_ne_ok (tgt := 44) h0 kd_M_amend_37 (by decide) ?_ ?_
      · exact hb_44
      refine wq_iconst_ok h0 kd_M_amend_40 (by decide +kernel) ?_
      refine wq_goto_ok (tgt := 57) h0 kd_M_amend_41 (by decide) ?_
      exact hb_57
    have hb_0 : wq_Snd p l e ({ frames := 2, cells := 0, slots := 0, locals := 43 } : Room) s m args below meth c 10 cs D kz_cl A (wq_G0 ad w) (wq_Q cs D kz_cl A (wq_G0 ad w) rt xt below s 0 0) 0 (kt_M_amend_0 rt xt K) := by
      refine wq_aload_n_ok h0 kd_M_amend_0 rfl ?_
      refine wq_aload_n_ok h0 kd_M_amend_1 rfl ?_
      refine wq_iload_n_ok h0 kd_M_amend_2 rfl ?_
      refine wq_iload_n_ok h0 kd_M_amend_3 rfl ?_
      refine wq_call_ok hA (wq_runV (ci := 9) ⟨h0.1, h0.2, hml, hown, hts⟩ (kv_M_isLine hl) ⟨(wq_cB hts kw_G kw_1317 kw_10 kw_1314 ⟨by decide +kernel, by decide +kernel, by decide +kernel⟩ rfl rfl ⟨Nat.le_of_ble_eq_true rfl, Nat.le_of_ble_eq_true rfl⟩), hts _ kw_1316, hts _ kw_s40⟩ rfl rfl hK hZ hN hA kd_M_amend_4) (wq_xout_ok hnt hlk) ?_
      refine wq_if_eq_ok (tgt := 28) h0 kd_M_amend_7 (by decide) ?_ ?_
      · exact hb_28
      refine wq_iload_n_ok h0 kd_M_amend_10 rfl ?_
      refine wq_iconst_ok h0 kd_M_amend_11 (by decide +kernel) ?_
      refine wq_iconst_ok h0 kd_M_amend_12 (by decide +kernel) ?_
      refine wq_call_ok hA (wq_runS ⟨h0.1, h0.2, hml, hown, hts⟩ (kv_M_within hl) ⟨(wq_cB hts kw_G kw_1209 kw_10 kw_1207 ⟨by decide +kernel, by decide +kernel, by decide +kernel⟩ rfl rfl ⟨Nat.le_of_ble_eq_true rfl, Nat.le_of_ble_eq_true rfl⟩), hts _ kw_1208⟩ hK hZ hN hA kd_M_amend_13) (wq_xout_ok hnt hlk) ?_
      refine wq_if_eq_ok (tgt := 28) h0 kd_M_amend_16 (by decide) ?_ ?_
      · exact hb_28
      refine wq_iload_n_ok h0 kd_M_amend_19 rfl ?_
      refine wq_iload_ok h0 kd_M_amend_20 ?_
      refine wq_call_ok hA (wq_runS ⟨h0.1, h0.2, hml, hown, hts⟩ (kv_M_isField hl) ⟨(wq_cB hts kw_G kw_1303 kw_10 kw_1301 ⟨by decide +kernel, by decide +kernel, by decide +kernel⟩ rfl rfl ⟨Nat.le_of_ble_eq_true rfl, Nat.le_of_ble_eq_true rfl⟩), hts _ kw_1302⟩ hK hZ hN hA kd_M_amend_22) (wq_xout_ok hnt hlk) ?_
      refine wq_if_ne_ok (tgt := 32) h0 kd_M_amend_25 (by decide) ?_ ?_
      · exact hb_32
      exact hb_28
    refine ⟨?_, hb_0⟩
    exact List.forall_mem_cons.mpr ⟨hb_95, List.forall_mem_cons.mpr ⟨hb_297, fun _ h => absurd h List.not_mem_nil⟩⟩
  have hun : ∀ (n pc : Nat), pc ∈ [95, 297] → wq_Snd p l e ({ frames := 2, cells := 0, slots := 0, locals := 43 } : Room) s m args below meth c 10 cs D kz_cl A (wq_G0 ad w) (wq_Q cs D kz_cl A (wq_G0 ad w) rt xt below s 0 0) pc (ku_M_amend rt xt n pc) := by
    intro n
    induction n with
    | zero => intro pc _ L S w9 n1 n2 h; exact h.elim
    | succ n ih => intro pc hpc; exact (hall (ku_M_amend rt xt n) ih).1 pc hpc
  exact (hall (ku_M_amend rt xt 40) (hun 40)).2 _ _ _ _ _ (wq_sp_t hsp)
-- BorderDeskModel.left(IZ)I
def kt_M_left_64 (rt : Option wq_V → wq_W → Prop) (xt : Nat → wq_W → Prop) (K : Nat → wq_T) : wq_T := (wq_iload 3 (wq_ireturn 0 0 rt))
def kt_M_left_57 (rt : Option wq_V → wq_W → Prop) (xt : Nat → wq_W → Prop) (K : Nat → wq_T) : wq_T := (wq_istore 3 (wq_iinc 4 (nI 1) (K 5)))
def kt_M_left_56 (rt : Option wq_V → wq_W → Prop) (xt : Nat → wq_W → Prop) (K : Nat → wq_T) : wq_T := (wq_iload 3 (kt_M_left_57 rt xt K))
def kh_M_left_5 (rt : Option wq_V → wq_W → Prop) (xt : Nat → wq_W → Prop) (K : Nat → wq_T) : wq_T := (wq_iload 4 (wq_aload 0 (wq_get 9 56 (wq_f2 (fun x y => y ≤ x) (kt_M_left_64 rt xt K) (wq_aload 0 (wq_get 9 57 (wq_iload 4 (wq_iald (wq_iload 1 (wq_f2 (fun x y => x = y) (wq_aload 0 (wq_get 9 61 (wq_iload 4 (wq_zald (wq_iload 2 (wq_f2 (fun x y => x = y) (wq_iload 3 (wq_aload 0 (wq_get 9 58 (wq_iload 4 (wq_iald (wq_i2 (fun x y => x + y) (wq_aload 0 (wq_get 9 59 (wq_iload 4 (wq_iald (wq_i2 (fun x y => x - y) (kt_M_left_57 rt xt K)))))))))))) (kt_M_left_56 rt xt K))))))) (kt_M_left_56 rt xt K)))))))))))
def kt_M_left_0 (rt : Option wq_V → wq_W → Prop) (xt : Nat → wq_W → Prop) (K : Nat → wq_T) : wq_T := (wq_iconst (nI 0) (wq_istore 3 (wq_iconst (nI 0) (wq_istore 4 (K 5)))))
def ku_M_left (rt : Option wq_V → wq_W → Prop) (xt : Nat → wq_W → Prop) : Nat → Nat → wq_T
  | 0, _ => fun _ _ _ _ _ => False
  | n + 1, pc => cond (Nat.beq pc 5) (kh_M_left_5 rt xt (ku_M_left rt xt n)) (fun _ _ _ _ _ => False)
def ks_M_left : wq_S := wq_sp 5 (fun rt xt => kt_M_left_0 rt xt (ku_M_left rt xt 40))
set_option maxRecDepth 100000 in
set_option maxHeartbeats 4000000 in
theorem kv_M_left {l : Launch} (hl : l.stackTraces = false) : wq_Vld l kz_cl ky_M_left kw_T ({ frames := 0, cells := 0, slots := 0, locals := 0 }) wq_G0 ks_M_left 0 0 := by
  refine wq_method (cc := kc_M_left) (maxL := 5) (ret := (some .int)) (by decide) kw_1384 (fun _ _ => rfl) wq_sp_sz ?_
  intro p e s m args below meth c cs D ad as w rt xt hF hnt hsp
  obtain ⟨h0, hr, hts, hown, hlk, hnm, hml, hK, hZ, hN, hA⟩ := hF
  have hown : s.vm.findClass "BorderDeskModel" = some m.cls := hown
  obtain ⟨A, hAe⟩ : ∃ A, A = wq_A ad w s.heap.size := ⟨_, rfl⟩
  rw [← hAe] at hZ hA ⊢
  have hall : ∀ K : Nat → wq_T, (∀ pc, pc ∈ [5] → wq_Snd p l e ({ frames := 0, cells := 0, slots := 0, locals := 0 } : Room) s m args below meth c 5 cs D kz_cl A (wq_G0 ad w) (wq_Q cs D kz_cl A (wq_G0 ad w) rt xt below s 0 0) pc (K pc)) → (∀ pc, pc ∈ [5] → wq_Snd p l e ({ frames := 0, cells := 0, slots := 0, locals := 0 } : Room) s m args below meth c 5 cs D kz_cl A (wq_G0 ad w) (wq_Q cs D kz_cl A (wq_G0 ad w) rt xt below s 0 0) pc (cond (Nat.beq pc 5) (kh_M_left_5 rt xt K) (fun _ _ _ _ _ => False))) ∧ wq_Snd p l e ({ frames := 0, cells := 0, slots := 0, locals := 0 } : Room) s m args below meth c 5 cs D kz_cl A (wq_G0 ad w) (wq_Q cs D kz_cl A (wq_G0 ad w) rt xt below s 0 0) 0 (kt_M_left_0 rt xt K) := by
    intro K hKc
    have hb_64 : wq_Snd p l e ({ frames := 0, cells := 0, slots := 0, locals := 0 } : Room) s m args below meth c 5 cs D kz_cl A (wq_G0 ad w) (wq_Q cs D kz_cl A (wq_G0 ad w) rt xt below s 0 0) 64 (kt_M_left_64 rt xt K) := by
      refine wq_iload_n_ok h0 kd_M_left_64 rfl ?_
      exact wq_ireturn_ok h0 hr hlk kd_M_left_65
    have hb_57 : wq_Snd p l e ({ frames := 0, cells := 0, slots := 0, locals := 0 } : Room) s m args below meth c 5 cs D kz_cl A (wq_G0 ad w) (wq_Q cs D kz_cl A (wq_G0 ad w) rt xt below s 0 0) 57 (kt_M_left_57 rt xt K) := by
      refine wq_istore_n_ok h0 kd_M_left_57 rfl (Nat.le_of_ble_eq_true rfl) ?_
      refine wq_iinc_ok h0 kd_M_left_58 (by decide +kernel) (Nat.le_of_ble_eq_true rfl) ?_
      refine wq_goto_ok (tgt := 5) h0 kd_M_left_61 (by decide) ?_
      exact hKc 5 (by decide)
    have hb_56 : wq_Snd p l e ({ frames := 0, cells := 0, slots := 0, locals := 0 } : Room) s m args below meth c 5 cs D kz_cl A (wq_G0 ad w) (wq_Q cs D kz_cl A (wq_G0 ad w) rt xt below s 0 0) 56 (kt_M_left_56 rt xt K) := by
      refine wq_iload_n_ok h0 kd_M_left_56 rfl ?_
      exact hb_57
    have hb_5 : wq_Snd p l e ({ frames := 0, cells := 0, slots := 0, locals := 0 } : Room) s m args below meth c 5 cs D kz_cl A (wq_G0 ad w) (wq_Q cs D kz_cl A (wq_G0 ad w) rt xt below s 0 0) 5 (kh_M_left_5 rt xt K) := by
      refine wq_iload_ok h0 kd_M_left_5 ?_
      refine wq_aload_n_ok h0 kd_M_left_7 rfl ?_
      refine wq_get_ok (wq_getOK h0 hts ki_M hown hK (ci := 9) rfl 56 (Nat.le_of_ble_eq_true rfl) kw_1038 rfl) kd_M_left_8 ?_
      refine wq_icmp_ge_ok (tgt := 64) h0 kd_M_left_11 (by decide) ?_ ?_
      · exact hb_64
      refine wq_aload_n_ok h0 kd_M_left_14 rfl ?_
      refine wq_get_ok (wq_getOK h0 hts ki_M hown hK (ci := 9) rfl 57 (Nat.le_of_ble_eq_true rfl) kw_1039 rfl) kd_M_left_15 ?_
      refine wq_iload_ok h0 kd_M_left_18 ?_
      refine wq_iald_ok h0 hK kd_M_left_20 ?_
      refine wq_iload_n_ok h0 kd_M_left_21 rfl ?_
      refine wq_icmp_ne_ok (tgt := 56) h0 kd_M_left_22 (by decide) ?_ ?_
      · exact hb_56
      refine wq_aload_n_ok h0 kd_M_left_25 rfl ?_
      refine wq_get_ok (wq_getOK h0 hts ki_M hown hK (ci := 9) rfl 61 (Nat.le_of_ble_eq_true rfl) kw_1043 rfl) kd_M_left_26 ?_
      refine wq_iload_ok h0 kd_M_left_29 ?_
      refine wq_zald_ok h0 hK kd_M_left_31 ?_
      refine wq_iload_n_ok h0 kd_M_left_32 rfl ?_
      refine wq_icmp_ne_ok (tgt := 56) h0 kd_M_left_33 (by decide) ?_ ?_
      · exact hb_56
      refine wq_iload_n_ok h0 kd_M_left_36 rfl ?_
      refine wq_aload_n_ok h0 kd_M_left_37 rfl ?_
      refine wq_get_ok (wq_getOK h0 hts ki_M hown hK (ci := 9) rfl 58 (Nat.le_of_ble_eq_true rfl) kw_1040 rfl) kd_M_left_38 ?_
      refine wq_iload_ok h0 kd_M_left_41 ?_
      refine wq_iald_ok h0 hK kd_M_left_43 ?_
      refine wq_iadd_ok h0 kd_M_left_44 ?_
      refine wq_aload_n_ok h0 kd_M_left_45 rfl ?_
      refine wq_get_ok (wq_getOK h0 hts ki_M hown hK (ci := 9) rfl 59 (Nat.le_of_ble_eq_true rfl) kw_1041 rfl) kd_M_left_46 ?_
      refine wq_iload_ok h0 kd_M_left_49 ?_
      refine wq_iald_ok h0 hK kd_M_left_51 ?_
      refine wq_isub_ok h0 kd_M_left_52 ?_
      refine wq_goto_ok (tgt := 57) h0 kd_M_left_53 (by decide) ?_
      exact hb_57
    have hb_0 : wq_Snd p l e ({ frames := 0, cells := 0, slots := 0, locals := 0 } : Room) s m args below meth c 5 cs D kz_cl A (wq_G0 ad w) (wq_Q cs D kz_cl A (wq_G0 ad w) rt xt below s 0 0) 0 (kt_M_left_0 rt xt K) := by
      refine wq_iconst_ok h0 kd_M_left_0 (by decide +kernel) ?_
      refine wq_istore_n_ok h0 kd_M_left_1 rfl (Nat.le_of_ble_eq_true rfl) ?_
      refine wq_iconst_ok h0 kd_M_left_2 (by decide +kernel) ?_
      refine wq_istore_ok h0 kd_M_left_3 (Nat.le_of_ble_eq_true rfl) ?_
      exact hKc 5 (by decide)
    refine ⟨?_, hb_0⟩
    exact List.forall_mem_cons.mpr ⟨hb_5, fun _ h => absurd h List.not_mem_nil⟩
  have hun : ∀ (n pc : Nat), pc ∈ [5] → wq_Snd p l e ({ frames := 0, cells := 0, slots := 0, locals := 0 } : Room) s m args below meth c 5 cs D kz_cl A (wq_G0 ad w) (wq_Q cs D kz_cl A (wq_G0 ad w) rt xt below s 0 0) pc (ku_M_left rt xt n pc) := by
    intro n
    induction n with
    | zero => intro pc _ L S w9 n1 n2 h; exact h.elim
    | succ n ih => intro pc hpc; exact (hall (ku_M_left rt xt n) ih).1 pc hpc
  exact (hall (ku_M_left rt xt 40) (hun 40)).2 _ _ _ _ _ (wq_sp_t hsp)
-- BorderDeskModel.release(II)J
def kt_M_release_50 (rt : Option wq_V → wq_W → Prop) (xt : Nat → wq_W → Prop) : wq_T := (wq_aload 0 (wq_iload 1 (wq_iload 2 (wq_iconst (nI 1) (wq_call (wq_rv 9 wq_no) 4 0 0 0 0 (wq_xout 0 0 xt) (wq_lstore 3 (wq_aload 0 (wq_get 9 63 (wq_iload 1 (wq_aload 0 (wq_get 9 63 (wq_iload 1 (wq_iald (wq_iload 2 (wq_i2 (fun x y => x + y) (wq_iast (wq_aload 0 (wq_aload 0 (wq_get 9 66 (wq_lload 3 (wq_l2 (fun x y => x + y) (wq_put 9 66 wq_isL (wq_lload 3 (wq_lreturn 0 0 rt))))))))))))))))))))))))
def kt_M_release_38 (rt : Option wq_V → wq_W → Prop) (xt : Nat → wq_W → Prop) : wq_T := (wq_put 9 0 wq_isI (wq_aload 0 (wq_get 9 0 (wq_f1 (fun x => x ≤ 0) (kt_M_release_50 rt xt) (wq_lconst (0 : Int64) (wq_lreturn 0 0 rt))))))
def kt_M_release_19 (rt : Option wq_V → wq_W → Prop) (xt : Nat → wq_W → Prop) : wq_T := (wq_iconst (nI 1) (kt_M_release_38 rt xt))
def kt_M_release_37 (rt : Option wq_V → wq_W → Prop) (xt : Nat → wq_W → Prop) : wq_T := (wq_iconst (nI 0) (kt_M_release_38 rt xt))
def kt_M_release_23 (rt : Option wq_V → wq_W → Prop) (xt : Nat → wq_W → Prop) : wq_T := (wq_aload 0 (wq_iload 1 (wq_iconst (nI 1) (wq_call (wq_rv 9 ks_M_left) 3 0 0 0 0 (wq_xout 0 0 xt) (wq_iload 2 (wq_f2 (fun x y => y ≤ x) (kt_M_release_37 rt xt) (wq_iconst (nI 2) (kt_M_release_38 rt xt))))))))
def kt_M_release_0 (rt : Option wq_V → wq_W → Prop) (xt : Nat → wq_W → Prop) : wq_T := (wq_aload 0 (wq_iload 1 (wq_iconst (nI 0) (wq_iconst (nI 15) (wq_call ks_M_within 3 0 0 0 0 (wq_xout 0 0 xt) (wq_f1 (fun x => x = 0) (kt_M_release_19 rt xt) (wq_iconst (nI 0) (wq_iload 2 (wq_call ks_M_isField 2 0 0 0 0 (wq_xout 0 0 xt) (wq_f1 (fun x => x = 0) (kt_M_release_19 rt xt) (kt_M_release_23 rt xt)))))))))))
def ks_M_release : wq_S := wq_sp 5 (fun rt xt => kt_M_release_0 rt xt)
set_option maxRecDepth 100000 in
set_option maxHeartbeats 4000000 in
theorem kv_M_release {l : Launch} (hl : l.stackTraces = false) : wq_Vld l kz_cl ky_M_release kw_T ({ frames := 1, cells := 0, slots := 0, locals := 27 }) wq_G0 ks_M_release 0 0 := by
  refine wq_method (cc := kc_M_release) (maxL := 5) (ret := (some .long)) (by decide) kw_1380 (fun _ _ => rfl) wq_sp_sz ?_
  intro p e s m args below meth c cs D ad as w rt xt hF hnt hsp
  obtain ⟨h0, hr, hts, hown, hlk, hnm, hml, hK, hZ, hN, hA⟩ := hF
  have hown : s.vm.findClass "BorderDeskModel" = some m.cls := hown
  obtain ⟨A, hAe⟩ : ∃ A, A = wq_A ad w s.heap.size := ⟨_, rfl⟩
  rw [← hAe] at hZ hA ⊢
  have hb_50 : wq_Snd p l e ({ frames := 1, cells := 0, slots := 0, locals := 27 } : Room) s m args below meth c 5 cs D kz_cl A (wq_G0 ad w) (wq_Q cs D kz_cl A (wq_G0 ad w) rt xt below s 0 0) 50 (kt_M_release_50 rt xt) := by
    refine wq_aload_n_ok h0 kd_M_release_50 rfl ?_
    refine wq_iload_n_ok h0 kd_M_release_51 rfl ?_
    refine wq_iload_n_ok h0 kd_M_release_52 rfl ?_
    refine wq_iconst_ok h0 kd_M_release_53 (by decide +kernel) ?_
    refine wq_call_ok hA (wq_runV (ci := 9) ⟨h0.1, h0.2, hml, hown, hts⟩ (wq_no_ok (y := ({ cls := "BorderDeskModel", name := "take", desc := "(IIZ)J" } : Jvm.MethodName)) (ws := kw_T) (rm := { frames := 0, cells := 0, slots := 0, locals := 0 }) (mc := 0) (ms := 0)) ⟨(wq_cB hts kw_G kw_1388 kw_10 kw_1385 ⟨by decide +kernel, by decide +kernel, by decide +kernel⟩ rfl rfl ⟨Nat.le_of_ble_eq_true rfl, Nat.le_of_ble_eq_true rfl⟩), hts _ kw_1387, hts _ kw_s54⟩ rfl rfl hK hZ hN hA kd_M_release_54) (wq_xout_ok hnt hlk) ?_
    refine wq_lstore_n_ok h0 kd_M_release_57 rfl (Nat.le_of_ble_eq_true rfl) ?_
    refine wq_aload_n_ok h0 kd_M_release_58 rfl ?_
    refine wq_get_ok (wq_getOK h0 hts ki_M hown hK (ci := 9) rfl 63 (Nat.le_of_ble_eq_true rfl) kw_1045 rfl) kd_M_release_59 ?_
    refine wq_iload_n_ok h0 kd_M_release_62 rfl ?_
    refine wq_aload_n_ok h0 kd_M_release_63 rfl ?_
    refine wq_get_ok (wq_getOK h0 hts ki_M hown hK (ci := 9) rfl 63 (Nat.le_of_ble_eq_true rfl) kw_1045 rfl) kd_M_release_64 ?_
    refine wq_iload_n_ok h0 kd_M_release_67 rfl ?_
    refine wq_iald_ok h0 hK kd_M_release_68 ?_
    refine wq_iload_n_ok h0 kd_M_release_69 rfl ?_
    refine wq_iadd_ok h0 kd_M_release_70 ?_
    refine wq_iast_ok h0 hK kd_M_release_71 ?_
    refine wq_aload_n_ok h0 kd_M_release_72 rfl ?_
    refine wq_aload_n_ok h0 kd_M_release_73 rfl ?_
    refine wq_get_ok (wq_getOK h0 hts ki_M hown hK (ci := 9) rfl 66 (Nat.le_of_ble_eq_true rfl) kw_1048 rfl) kd_M_release_74 ?_
    refine wq_lload_n_ok h0 kd_M_release_77 rfl ?_
    refine wq_ladd_ok h0 kd_M_release_78 ?_
    refine wq_put_ok (wq_putOK h0 hts ki_M ka_M kb_M kn_M hown hK (ci := 9) rfl 66 (Nat.le_of_ble_eq_true rfl) kw_1048 rfl (Or.inl rfl) wq_okL) kd_M_release_79 ?_
    refine wq_lload_n_ok h0 kd_M_release_82 rfl ?_
    exact wq_lreturn_ok h0 hr hlk kd_M_release_83
  have hb_38 : wq_Snd p l e ({ frames := 1, cells := 0, slots := 0, locals := 27 } : Room) s m args below meth c 5 cs D kz_cl A (wq_G0 ad w) (wq_Q cs D kz_cl A (wq_G0 ad w) rt xt below s 0 0) 38 (kt_M_release_38 rt xt) := by
    refine wq_put_ok (wq_putOK h0 hts ki_M ka_M kb_M kn_M hown hK (ci := 9) rfl 0 (Nat.le_of_ble_eq_true rfl) kw_982 rfl (Or.inl rfl) wq_okI) kd_M_release_38 ?_
    refine wq_aload_n_ok h0 kd_M_release_41 rfl ?_
    refine wq_get_ok (wq_getOK h0 hts ki_M hown hK (ci := 9) rfl 0 (Nat.le_of_ble_eq_true rfl) kw_982 rfl) kd_M_release_42 ?_
    refine wq_if_le_ok (tgt := 50) h0 kd_M_release_45 (by decide) ?_ ?_
    · exact hb_50
    refine wq_lconst_ok h0 kd_M_release_48 (by decide +kernel) ?_
    exact wq_lreturn_ok h0 hr hlk kd_M_release_49
  have hb_19 : wq_Snd p l e ({ frames := 1, cells := 0, slots := 0, locals := 27 } : Room) s m args below meth c 5 cs D kz_cl A (wq_G0 ad w) (wq_Q cs D kz_cl A (wq_G0 ad w) rt xt below s 0 0) 19 (kt_M_release_19 rt xt) := by
    refine wq_iconst_ok h0 kd_M_release_19 (by decide +kernel) ?_
    refine wq_goto_ok (tgt := 38) h0 kd_M_release_20 (by decide) ?_
    exact hb_38
  have hb_37 : wq_Snd p l e ({ frames := 1, cells := 0, slots := 0, locals := 27 } : Room) s m args below meth c 5 cs D kz_cl A (wq_G0 ad w) (wq_Q cs D kz_cl A (wq_G0 ad w) rt xt below s 0 0) 37 (kt_M_release_37 rt xt) := by
    refine wq_iconst_ok h0 kd_M_release_37 (by decide +kernel) ?_
    exact hb_38
  have hb_23 : wq_Snd p l e ({ frames := 1, cells := 0, slots := 0, locals := 27 } : Room) s m args below meth c 5 cs D kz_cl A (wq_G0 ad w) (wq_Q cs D kz_cl A (wq_G0 ad w) rt xt below s 0 0) 23 (kt_M_release_23 rt xt) := by
    refine wq_aload_n_ok h0 kd_M_release_23 rfl ?_
    refine wq_iload_n_ok h0 kd_M_release_24 rfl ?_
    refine wq_iconst_ok h0 kd_M_release_25 (by decide +kernel) ?_
    refine wq_call_ok hA (wq_runV (ci := 9) ⟨h0.1, h0.2, hml, hown, hts⟩ (kv_M_left hl) ⟨(wq_cB hts kw_G kw_1384 kw_10 kw_1381 ⟨by decide +kernel, by decide +kernel, by decide +kernel⟩ rfl rfl ⟨Nat.le_of_ble_eq_true rfl, Nat.le_of_ble_eq_true rfl⟩), hts _ kw_1383, hts _ kw_s53⟩ rfl rfl hK hZ hN hA kd_M_release_26) (wq_xout_ok hnt hlk) ?_
    refine wq_iload_n_ok h0 kd_M_release_29 rfl ?_
    refine wq_icmp_ge_ok (tgt := 37) h0 kd_M_release_30 (by decide) ?_ ?_
    · exact hb_37
    refine wq_iconst_ok h0 kd_M_release_33 (by decide +kernel) ?_
    refine wq_goto_ok (tgt := 38) h0 kd_M_release_34 (by decide) ?_
    exact hb_38
  have hb_0 : wq_Snd p l e ({ frames := 1, cells := 0, slots := 0, locals := 27 } : Room) s m args below meth c 5 cs D kz_cl A (wq_G0 ad w) (wq_Q cs D kz_cl A (wq_G0 ad w) rt xt below s 0 0) 0 (kt_M_release_0 rt xt) := by
    refine wq_aload_n_ok h0 kd_M_release_0 rfl ?_
    refine wq_iload_n_ok h0 kd_M_release_1 rfl ?_
    refine wq_iconst_ok h0 kd_M_release_2 (by decide +kernel) ?_
    refine wq_bipush_ok h0 kd_M_release_3 (by decide +kernel) ?_
    refine wq_call_ok hA (wq_runS ⟨h0.1, h0.2, hml, hown, hts⟩ (kv_M_within hl) ⟨(wq_cB hts kw_G kw_1209 kw_10 kw_1207 ⟨by decide +kernel, by decide +kernel, by decide +kernel⟩ rfl rfl ⟨Nat.le_of_ble_eq_true rfl, Nat.le_of_ble_eq_true rfl⟩), hts _ kw_1208⟩ hK hZ hN hA kd_M_release_5) (wq_xout_ok hnt hlk) ?_
    refine wq_if_eq_ok (tgt := 19) h0 kd_M_release_8 (by decide) ?_ ?_
    · exact hb_19
    refine wq_iconst_ok h0 kd_M_release_11 (by decide +kernel) ?_
    refine wq_iload_n_ok h0 kd_M_release_12 rfl ?_
    refine wq_call_ok hA (wq_runS ⟨h0.1, h0.2, hml, hown, hts⟩ (kv_M_isField hl) ⟨(wq_cB hts kw_G kw_1303 kw_10 kw_1301 ⟨by decide +kernel, by decide +kernel, by decide +kernel⟩ rfl rfl ⟨Nat.le_of_ble_eq_true rfl, Nat.le_of_ble_eq_true rfl⟩), hts _ kw_1302⟩ hK hZ hN hA kd_M_release_13) (wq_xout_ok hnt hlk) ?_
    refine wq_if_ne_ok (tgt := 23) h0 kd_M_release_16 (by decide) ?_ ?_
    · exact hb_23
    exact hb_19
  exact hb_0 _ _ _ _ _ (wq_sp_t hsp)
-- BorderDeskModel.export(II)J
def kt_M_export_50 (rt : Option wq_V → wq_W → Prop) (xt : Nat → wq_W → Prop) : wq_T := (wq_aload 0 (wq_iload 1 (wq_iload 2 (wq_iconst (nI 0) (wq_call (wq_rv 9 wq_no) 4 0 0 0 0 (wq_xout 0 0 xt) (wq_lstore 3 (wq_aload 0 (wq_aload 0 (wq_get 9 67 (wq_lload 3 (wq_l2 (fun x y => x + y) (wq_put 9 67 wq_isL (wq_lload 3 (wq_lreturn 0 0 rt))))))))))))))
def kt_M_export_38 (rt : Option wq_V → wq_W → Prop) (xt : Nat → wq_W → Prop) : wq_T := (wq_put 9 0 wq_isI (wq_aload 0 (wq_get 9 0 (wq_f1 (fun x => x ≤ 0) (kt_M_export_50 rt xt) (wq_lconst (0 : Int64) (wq_lreturn 0 0 rt))))))
def kt_M_export_19 (rt : Option wq_V → wq_W → Prop) (xt : Nat → wq_W → Prop) : wq_T := (wq_iconst (nI 1) (kt_M_export_38 rt xt))
def kt_M_export_37 (rt : Option wq_V → wq_W → Prop) (xt : Nat → wq_W → Prop) : wq_T := (wq_iconst (nI 0) (kt_M_export_38 rt xt))
def kt_M_export_23 (rt : Option wq_V → wq_W → Prop) (xt : Nat → wq_W → Prop) : wq_T := (wq_aload 0 (wq_iload 1 (wq_iconst (nI 0) (wq_call (wq_rv 9 ks_M_left) 3 0 0 0 0 (wq_xout 0 0 xt) (wq_iload 2 (wq_f2 (fun x y => y ≤ x) (kt_M_export_37 rt xt) (wq_iconst (nI 2) (kt_M_export_38 rt xt))))))))
def kt_M_export_0 (rt : Option wq_V → wq_W → Prop) (xt : Nat → wq_W → Prop) : wq_T := (wq_aload 0 (wq_iload 1 (wq_iconst (nI 0) (wq_iconst (nI 15) (wq_call ks_M_within 3 0 0 0 0 (wq_xout 0 0 xt) (wq_f1 (fun x => x = 0) (kt_M_export_19 rt xt) (wq_iconst (nI 0) (wq_iload 2 (wq_call ks_M_isField 2 0 0 0 0 (wq_xout 0 0 xt) (wq_f1 (fun x => x = 0) (kt_M_export_19 rt xt) (kt_M_export_23 rt xt)))))))))))
def ks_M_export : wq_S := wq_sp 5 (fun rt xt => kt_M_export_0 rt xt)
set_option maxRecDepth 100000 in
set_option maxHeartbeats 4000000 in
theorem kv_M_export {l : Launch} (hl : l.stackTraces = false) : wq_Vld l kz_cl ky_M_export kw_T ({ frames := 1, cells := 0, slots := 0, locals := 27 }) wq_G0 ks_M_export 0 0 := by
  refine wq_method (cc := kc_M_export) (maxL := 5) (ret := (some .long)) (by decide) kw_1392 (fun _ _ => rfl) wq_sp_sz ?_
  intro p e s m args below meth c cs D ad as w rt xt hF hnt hsp
  obtain ⟨h0, hr, hts, hown, hlk, hnm, hml, hK, hZ, hN, hA⟩ := hF
  have hown : s.vm.findClass "BorderDeskModel" = some m.cls := hown
  obtain ⟨A, hAe⟩ : ∃ A, A = wq_A ad w s.heap.size := ⟨_, rfl⟩
  rw [← hAe] at hZ hA ⊢
  have hb_50 : wq_Snd p l e ({ frames := 1, cells := 0, slots := 0, locals := 27 } : Room) s m args below meth c 5 cs D kz_cl A (wq_G0 ad w) (wq_Q cs D kz_cl A (wq_G0 ad w) rt xt below s 0 0) 50 (kt_M_export_50 rt xt) := by
    refine wq_aload_n_ok h0 kd_M_export_50 rfl ?_
    refine wq_iload_n_ok h0 kd_M_export_51 rfl ?_
    refine wq_iload_n_ok h0 kd_M_export_52 rfl ?_
    refine wq_iconst_ok h0 kd_M_export_53 (by decide +kernel) ?_
    refine wq_call_ok hA (wq_runV (ci := 9) ⟨h0.1, h0.2, hml, hown, hts⟩ (wq_no_ok (y := ({ cls := "BorderDeskModel", name := "take", desc := "(IIZ)J" } : Jvm.MethodName)) (ws := kw_T) (rm := { frames := 0, cells := 0, slots := 0, locals := 0 }) (mc := 0) (ms := 0)) ⟨(wq_cB hts kw_G kw_1388 kw_10 kw_1385 ⟨by decide +kernel, by decide +kernel, by decide +kernel⟩ rfl rfl ⟨Nat.le_of_ble_eq_true rfl, Nat.le_of_ble_eq_true rfl⟩), hts _ kw_1387, hts _ kw_s54⟩ rfl rfl hK hZ hN hA kd_M_export_54) (wq_xout_ok hnt hlk) ?_
    refine wq_lstore_n_ok h0 kd_M_export_57 rfl (Nat.le_of_ble_eq_true rfl) ?_
    refine wq_aload_n_ok h0 kd_M_export_58 rfl ?_
    refine wq_aload_n_ok h0 kd_M_export_59 rfl ?_
    refine wq_get_ok (wq_getOK h0 hts ki_M hown hK (ci := 9) rfl 67 (Nat.le_of_ble_eq_true rfl) kw_1049 rfl) kd_M_export_60 ?_
    refine wq_lload_n_ok h0 kd_M_export_63 rfl ?_
    refine wq_ladd_ok h0 kd_M_export_64 ?_
    refine wq_put_ok (wq_putOK h0 hts ki_M ka_M kb_M kn_M hown hK (ci := 9) rfl 67 (Nat.le_of_ble_eq_true rfl) kw_1049 rfl (Or.inl rfl) wq_okL) kd_M_export_65 ?_
    refine wq_lload_n_ok h0 kd_M_export_68 rfl ?_
    exact wq_lreturn_ok h0 hr hlk kd_M_export_69
  have hb_38 : wq_Snd p l e ({ frames := 1, cells := 0, slots := 0, locals := 27 } : Room) s m args below meth c 5 cs D kz_cl A (wq_G0 ad w) (wq_Q cs D kz_cl A (wq_G0 ad w) rt xt below s 0 0) 38 (kt_M_export_38 rt xt) := by
    refine wq_put_ok (wq_putOK h0 hts ki_M ka_M kb_M kn_M hown hK (ci := 9) rfl 0 (Nat.le_of_ble_eq_true rfl) kw_982 rfl (Or.inl rfl) wq_okI) kd_M_export_38 ?_
    refine wq_aload_n_ok h0 kd_M_export_41 rfl ?_
    refine wq_get_ok (wq_getOK h0 hts ki_M hown hK (ci := 9) rfl 0 (Nat.le_of_ble_eq_true rfl) kw_982 rfl) kd_M_export_42 ?_
    refine wq_if_le_ok (tgt := 50) h0 kd_M_export_45 (by decide) ?_ ?_
    · exact hb_50
    refine wq_lconst_ok h0 kd_M_export_48 (by decide +kernel) ?_
    exact wq_lreturn_ok h0 hr hlk kd_M_export_49
  have hb_19 : wq_Snd p l e ({ frames := 1, cells := 0, slots := 0, locals := 27 } : Room) s m args below meth c 5 cs D kz_cl A (wq_G0 ad w) (wq_Q cs D kz_cl A (wq_G0 ad w) rt xt below s 0 0) 19 (kt_M_export_19 rt xt) := by
    refine wq_iconst_ok h0 kd_M_export_19 (by decide +kernel) ?_
    refine wq_goto_ok (tgt := 38) h0 kd_M_export_20 (by decide) ?_
    exact hb_38
  have hb_37 : wq_Snd p l e ({ frames := 1, cells := 0, slots := 0, locals := 27 } : Room) s m args below meth c 5 cs D kz_cl A (wq_G0 ad w) (wq_Q cs D kz_cl A (wq_G0 ad w) rt xt below s 0 0) 37 (kt_M_export_37 rt xt) := by
    refine wq_iconst_ok h0 kd_M_export_37 (by decide +kernel) ?_
    exact hb_38
  have hb_23 : wq_Snd p l e ({ frames := 1, cells := 0, slots := 0, locals := 27 } : Room) s m args below meth c 5 cs D kz_cl A (wq_G0 ad w) (wq_Q cs D kz_cl A (wq_G0 ad w) rt xt below s 0 0) 23 (kt_M_export_23 rt xt) := by
    refine wq_aload_n_ok h0 kd_M_export_23 rfl ?_
    refine wq_iload_n_ok h0 kd_M_export_24 rfl ?_
    refine wq_iconst_ok h0 kd_M_export_25 (by decide +kernel) ?_
    refine wq_call_ok hA (wq_runV (ci := 9) ⟨h0.1, h0.2, hml, hown, hts⟩ (kv_M_left hl) ⟨(wq_cB hts kw_G kw_1384 kw_10 kw_1381 ⟨by decide +kernel, by decide +kernel, by decide +kernel⟩ rfl rfl ⟨Nat.le_of_ble_eq_true rfl, Nat.le_of_ble_eq_true rfl⟩), hts _ kw_1383, hts _ kw_s53⟩ rfl rfl hK hZ hN hA kd_M_export_26) (wq_xout_ok hnt hlk) ?_
    refine wq_iload_n_ok h0 kd_M_export_29 rfl ?_
    refine wq_icmp_ge_ok (tgt := 37) h0 kd_M_export_30 (by decide) ?_ ?_
    · exact hb_37
    refine wq_iconst_ok h0 kd_M_export_33 (by decide +kernel) ?_
    refine wq_goto_ok (tgt := 38) h0 kd_M_export_34 (by decide) ?_
    exact hb_38
  have hb_0 : wq_Snd p l e ({ frames := 1, cells := 0, slots := 0, locals := 27 } : Room) s m args below meth c 5 cs D kz_cl A (wq_G0 ad w) (wq_Q cs D kz_cl A (wq_G0 ad w) rt xt below s 0 0) 0 (kt_M_export_0 rt xt) := by
    refine wq_aload_n_ok h0 kd_M_export_0 rfl ?_
    refine wq_iload_n_ok h0 kd_M_export_1 rfl ?_
    refine wq_iconst_ok h0 kd_M_export_2 (by decide +kernel) ?_
    refine wq_bipush_ok h0 kd_M_export_3 (by decide +kernel) ?_
    refine wq_call_ok hA (wq_runS ⟨h0.1, h0.2, hml, hown, hts⟩ (kv_M_within hl) ⟨(wq_cB hts kw_G kw_1209 kw_10 kw_1207 ⟨by decide +kernel, by decide +kernel, by decide +kernel⟩ rfl rfl ⟨Nat.le_of_ble_eq_true rfl, Nat.le_of_ble_eq_true rfl⟩), hts _ kw_1208⟩ hK hZ hN hA kd_M_export_5) (wq_xout_ok hnt hlk) ?_
    refine wq_if_eq_ok (tgt := 19) h0 kd_M_export_8 (by decide) ?_ ?_
    · exact hb_19
    refine wq_iconst_ok h0 kd_M_export_11 (by decide +kernel) ?_
    refine wq_iload_n_ok h0 kd_M_export_12 rfl ?_
    refine wq_call_ok hA (wq_runS ⟨h0.1, h0.2, hml, hown, hts⟩ (kv_M_isField hl) ⟨(wq_cB hts kw_G kw_1303 kw_10 kw_1301 ⟨by decide +kernel, by decide +kernel, by decide +kernel⟩ rfl rfl ⟨Nat.le_of_ble_eq_true rfl, Nat.le_of_ble_eq_true rfl⟩), hts _ kw_1302⟩ hK hZ hN hA kd_M_export_13) (wq_xout_ok hnt hlk) ?_
    refine wq_if_ne_ok (tgt := 23) h0 kd_M_export_16 (by decide) ?_ ?_
    · exact hb_23
    exact hb_19
  exact hb_0 _ _ _ _ _ (wq_sp_t hsp)
-- BorderDeskModel.work(IIII)I
def kt_M_work_101 (rt : Option wq_V → wq_W → Prop) (xt : Nat → wq_W → Prop) : wq_T := (wq_aload 0 (wq_iload 1 (wq_iload 2 (wq_iconst (nI 1) (wq_call (wq_rv 9 wq_no) 4 0 0 0 0 (wq_xout 0 0 xt) (wq_lstore 6 (wq_aload 0 (wq_get 9 64 (wq_iload 1 (wq_aload 0 (wq_get 9 64 (wq_iload 1 (wq_iald (wq_iload 2 (wq_i2 (fun x y => x + y) (wq_iast (wq_aload 0 (wq_get 9 65 (wq_iload 1 (wq_aload 0 (wq_get 9 65 (wq_iload 1 (wq_iald (wq_iload 2 (wq_i2 (fun x y => x + y) (wq_iload 4 (wq_i2 (fun x y => x - y) (wq_iast (wq_aload 0 (wq_iload 3 (wq_iload 4 (wq_lload 6 (wq_iconst (nI 1) (wq_iconst (nI 1) (wq_call (wq_rv 9 wq_no) 6 0 0 0 0 (wq_xout 0 0 xt) (wq_ireturn 0 0 rt))))))))))))))))))))))))))))))))))))
def kt_M_work_89 (rt : Option wq_V → wq_W → Prop) (xt : Nat → wq_W → Prop) : wq_T := (wq_put 9 0 wq_isI (wq_aload 0 (wq_get 9 0 (wq_f1 (fun x => x ≤ 0) (kt_M_work_101 rt xt) (wq_iconst (nI 0) (wq_ireturn 0 0 rt))))))
def kt_M_work_88 (rt : Option wq_V → wq_W → Prop) (xt : Nat → wq_W → Prop) : wq_T := (wq_iconst (nI 0) (kt_M_work_89 rt xt))
def kt_M_work_75 (rt : Option wq_V → wq_W → Prop) (xt : Nat → wq_W → Prop) : wq_T := (wq_aload 0 (wq_get 9 56 (wq_iconst (nI 40) (wq_f2 (fun x y => x = y) (wq_iconst (nI 3) (kt_M_work_89 rt xt)) (kt_M_work_88 rt xt)))))
def kt_M_work_61 (rt : Option wq_V → wq_W → Prop) (xt : Nat → wq_W → Prop) : wq_T := (wq_aload 0 (wq_iload 1 (wq_iconst (nI 1) (wq_call (wq_rv 9 ks_M_left) 3 0 0 0 0 (wq_xout 0 0 xt) (wq_iload 2 (wq_f2 (fun x y => y ≤ x) (kt_M_work_75 rt xt) (wq_iconst (nI 2) (kt_M_work_89 rt xt))))))))
def kt_M_work_49 (rt : Option wq_V → wq_W → Prop) (xt : Nat → wq_W → Prop) : wq_T := (wq_istore 5 (wq_aload 0 (wq_iload 5 (wq_f1 (fun x => x = 0) (wq_iconst (nI 1) (kt_M_work_89 rt xt)) (kt_M_work_61 rt xt)))))
def kt_M_work_48 (rt : Option wq_V → wq_W → Prop) (xt : Nat → wq_W → Prop) : wq_T := (wq_iconst (nI 0) (kt_M_work_49 rt xt))
def kt_M_work_0 (rt : Option wq_V → wq_W → Prop) (xt : Nat → wq_W → Prop) : wq_T := (wq_iload 1 (wq_iconst (nI 0) (wq_iconst (nI 15) (wq_call ks_M_within 3 0 0 0 0 (wq_xout 0 0 xt) (wq_f1 (fun x => x = 0) (kt_M_work_48 rt xt) (wq_iload 3 (wq_iconst (nI 0) (wq_iconst (nI 15) (wq_call ks_M_within 3 0 0 0 0 (wq_xout 0 0 xt) (wq_f1 (fun x => x = 0) (kt_M_work_48 rt xt) (wq_iload 1 (wq_iload 3 (wq_f2 (fun x y => x = y) (kt_M_work_48 rt xt) (wq_iload 4 (wq_iconst (nI 1) (wq_f2 (fun x y => x < y) (kt_M_work_48 rt xt) (wq_iload 4 (wq_iload 2 (wq_f2 (fun x y => y < x) (kt_M_work_48 rt xt) (wq_iload 2 (wq_iconst (nI 1000) (wq_f2 (fun x y => y < x) (kt_M_work_48 rt xt) (wq_iconst (nI 1) (kt_M_work_49 rt xt))))))))))))))))))))))))
def ks_M_work : wq_S := wq_sp 8 (fun rt xt => kt_M_work_0 rt xt)
set_option maxRecDepth 100000 in
set_option maxHeartbeats 4000000 in
theorem kv_M_work {l : Launch} (hl : l.stackTraces = false) : wq_Vld l kz_cl ky_M_work kw_T ({ frames := 1, cells := 0, slots := 0, locals := 27 }) wq_G0 ks_M_work 0 0 := by
  refine wq_method (cc := kc_M_work) (maxL := 8) (ret := (some .int)) (by decide) kw_1396 (fun _ _ => rfl) wq_sp_sz ?_
  intro p e s m args below meth c cs D ad as w rt xt hF hnt hsp
  obtain ⟨h0, hr, hts, hown, hlk, hnm, hml, hK, hZ, hN, hA⟩ := hF
  have hown : s.vm.findClass "BorderDeskModel" = some m.cls := hown
  obtain ⟨A, hAe⟩ : ∃ A, A = wq_A ad w s.heap.size := ⟨_, rfl⟩
  rw [← hAe] at hZ hA ⊢
  have hb_101 : wq_Snd p l e ({ frames := 1, cells := 0, slots := 0, locals := 27 } : Room) s m args below meth c 8 cs D kz_cl A (wq_G0 ad w) (wq_Q cs D kz_cl A (wq_G0 ad w) rt xt below s 0 0) 101 (kt_M_work_101 rt xt) := by
    refine wq_aload_n_ok h0 kd_M_work_101 rfl ?_
    refine wq_iload_n_ok h0 kd_M_work_102 rfl ?_
    refine wq_iload_n_ok h0 kd_M_work_103 rfl ?_
    refine wq_iconst_ok h0 kd_M_work_104 (by decide +kernel) ?_
    refine wq_call_ok hA (wq_runV (ci := 9) ⟨h0.1, h0.2, hml, hown, hts⟩ (wq_no_ok (y := ({ cls := "BorderDeskModel", name := "take", desc := "(IIZ)J" } : Jvm.MethodName)) (ws := kw_T) (rm := { frames := 0, cells := 0, slots := 0, locals := 0 }) (mc := 0) (ms := 0)) ⟨(wq_cB hts kw_G kw_1388 kw_10 kw_1385 ⟨by decide +kernel, by decide +kernel, by decide +kernel⟩ rfl rfl ⟨Nat.le_of_ble_eq_true rfl, Nat.le_of_ble_eq_true rfl⟩), hts _ kw_1387, hts _ kw_s54⟩ rfl rfl hK hZ hN hA kd_M_work_105) (wq_xout_ok hnt hlk) ?_
    refine wq_lstore_ok h0 kd_M_work_108 (Nat.le_of_ble_eq_true rfl) ?_
    refine wq_aload_n_ok h0 kd_M_work_110 rfl ?_
    refine wq_get_ok (wq_getOK h0 hts ki_M hown hK (ci := 9) rfl 64 (Nat.le_of_ble_eq_true rfl) kw_1046 rfl) kd_M_work_111 ?_
    refine wq_iload_n_ok h0 kd_M_work_114 rfl ?_
    refine wq_aload_n_ok h0 kd_M_work_115 rfl ?_
    refine wq_get_ok (wq_getOK h0 hts ki_M hown hK (ci := 9) rfl 64 (Nat.le_of_ble_eq_true rfl) kw_1046 rfl) kd_M_work_116 ?_
    refine wq_iload_n_ok h0 kd_M_work_119 rfl ?_
    refine wq_iald_ok h0 hK kd_M_work_120 ?_
    refine wq_iload_n_ok h0 kd_M_work_121 rfl ?_
    refine wq_iadd_ok h0 kd_M_work_122 ?_
    refine wq_iast_ok h0 hK kd_M_work_123 ?_
    refine wq_aload_n_ok h0 kd_M_work_124 rfl ?_
    refine wq_get_ok (wq_getOK h0 hts ki_M hown hK (ci := 9) rfl 65 (Nat.le_of_ble_eq_true rfl) kw_1047 rfl) kd_M_work_125 ?_
    refine wq_iload_n_ok h0 kd_M_work_128 rfl ?_
    refine wq_aload_n_ok h0 kd_M_work_129 rfl ?_
    refine wq_get_ok (wq_getOK h0 hts ki_M hown hK (ci := 9) rfl 65 (Nat.le_of_ble_eq_true rfl) kw_1047 rfl) kd_M_work_130 ?_
    refine wq_iload_n_ok h0 kd_M_work_133 rfl ?_
    refine wq_iald_ok h0 hK kd_M_work_134 ?_
    refine wq_iload_n_ok h0 kd_M_work_135 rfl ?_
    refine wq_iadd_ok h0 kd_M_work_136 ?_
    refine wq_iload_ok h0 kd_M_work_137 ?_
    refine wq_isub_ok h0 kd_M_work_139 ?_
    refine wq_iast_ok h0 hK kd_M_work_140 ?_
    refine wq_aload_n_ok h0 kd_M_work_141 rfl ?_
    refine wq_iload_n_ok h0 kd_M_work_142 rfl ?_
    refine wq_iload_ok h0 kd_M_work_143 ?_
    refine wq_lload_ok h0 kd_M_work_145 ?_
    refine wq_iconst_ok h0 kd_M_work_147 (by decide +kernel) ?_
    refine wq_iconst_ok h0 kd_M_work_148 (by decide +kernel) ?_
    refine wq_call_ok hA (wq_runV (ci := 9) ⟨h0.1, h0.2, hml, hown, hts⟩ (wq_no_ok (y := ({ cls := "BorderDeskModel", name := "addLot", desc := "(IIJZZ)I" } : Jvm.MethodName)) (ws := kw_T) (rm := { frames := 0, cells := 0, slots := 0, locals := 0 }) (mc := 0) (ms := 0)) ⟨(wq_cB hts kw_G kw_1368 kw_10 kw_1365 ⟨by decide +kernel, by decide +kernel, by decide +kernel⟩ rfl rfl ⟨Nat.le_of_ble_eq_true rfl, Nat.le_of_ble_eq_true rfl⟩), hts _ kw_1367, hts _ kw_s51⟩ rfl rfl hK hZ hN hA kd_M_work_149) (wq_xout_ok hnt hlk) ?_
    exact wq_ireturn_ok h0 hr hlk kd_M_work_152
  have hb_89 : wq_Snd p l e ({ frames := 1, cells := 0, slots := 0, locals := 27 } : Room) s m args below meth c 8 cs D kz_cl A (wq_G0 ad w) (wq_Q cs D kz_cl A (wq_G0 ad w) rt xt below s 0 0) 89 (kt_M_work_89 rt xt) := by
    refine wq_put_ok (wq_putOK h0 hts ki_M ka_M kb_M kn_M hown hK (ci := 9) rfl 0 (Nat.le_of_ble_eq_true rfl) kw_982 rfl (Or.inl rfl) wq_okI) kd_M_work_89 ?_
    refine wq_aload_n_ok h0 kd_M_work_92 rfl ?_
    refine wq_get_ok (wq_getOK h0 hts ki_M hown hK (ci := 9) rfl 0 (Nat.le_of_ble_eq_true rfl) kw_982 rfl) kd_M_work_93 ?_
    refine wq_if_le_ok (tgt := 101) h0 kd_M_work_96 (by decide) ?_ ?_
    · exact hb_101
    refine wq_iconst_ok h0 kd_M_work_99 (by decide +kernel) ?_
    exact wq_ireturn_ok h0 hr hlk kd_M_work_100
  have hb_88 : wq_Snd p l e ({ frames := 1, cells := 0, slots := 0, locals := 27 } : Room) s m args below meth c 8 cs D kz_cl A (wq_G0 ad w) (wq_Q cs D kz_cl A (wq_G0 ad w) rt xt below s 0 0) 88 (kt_M_work_88 rt xt) := by
    refine wq_iconst_ok h0 kd_M_work_88 (by decide +kernel) ?_
    exact hb_89
  have hb_75 : wq_Snd p l e ({ frames := 1, cells := 0, slots := 0, locals := 27 } : Room) s m args below meth c 8 cs D kz_cl A (wq_G0 ad w) (wq_Q cs D kz_cl A (wq_G0 ad w) rt xt below s 0 0) 75 (kt_M_work_75 rt xt) := by
    refine wq_aload_n_ok h0 kd_M_work_75 rfl ?_
    refine wq_get_ok (wq_getOK h0 hts ki_M hown hK (ci := 9) rfl 56 (Nat.le_of_ble_eq_true rfl) kw_1038 rfl) kd_M_work_76 ?_
    refine wq_bipush_ok h0 kd_M_work_79 (by decide +kernel) ?_
    refine wq_icmp_ne_ok (tgt := 88) h0 kd_M_work_81 (by decide) ?_ ?_
    · exact hb_88
    refine wq_iconst_ok h0 kd_M_work_84 (by decide +kernel) ?_
    refine wq_goto_ok (tgt := 89) h0 kd_M_work_85 (by decide) ?_
    exact hb_89
  have hb_61 : wq_Snd p l e ({ frames := 1, cells := 0, slots := 0, locals := 27 } : Room) s m args below meth c 8 cs D kz_cl A (wq_G0 ad w) (wq_Q cs D kz_cl A (wq_G0 ad w) rt xt below s 0 0) 61 (kt_M_work_61 rt xt) := by
    refine wq_aload_n_ok h0 kd_M_work_61 rfl ?_
    refine wq_iload_n_ok h0 kd_M_work_62 rfl ?_
    refine wq_iconst_ok h0 kd_M_work_63 (by decide +kernel) ?_
    refine wq_call_ok hA (wq_runV (ci := 9) ⟨h0.1, h0.2, hml, hown, hts⟩ (kv_M_left hl) ⟨(wq_cB hts kw_G kw_1384 kw_10 kw_1381 ⟨by decide +kernel, by decide +kernel, by decide +kernel⟩ rfl rfl ⟨Nat.le_of_ble_eq_true rfl, Nat.le_of_ble_eq_true rfl⟩), hts _ kw_1383, hts _ kw_s53⟩ rfl rfl hK hZ hN hA kd_M_work_64) (wq_xout_ok hnt hlk) ?_
    refine wq_iload_n_ok h0 kd_M_work_67 rfl ?_
    refine wq_icmp_ge_ok (tgt := 75) h0 kd_M_work_68 (by decide) ?_ ?_
    · exact hb_75
    refine wq_iconst_ok h0 kd_M_work_71 (by decide +kernel) ?_
    refine wq_goto_ok (tgt := 89) h0 kd_M_work_72 (by decide) ?_
    exact hb_89
  have hb_49 : wq_Snd p l e ({ frames := 1, cells := 0, slots := 0, locals := 27 } : Room) s m args below meth c 8 cs D kz_cl A (wq_G0 ad w) (wq_Q cs D kz_cl A (wq_G0 ad w) rt xt below s 0 0) 49 (kt_M_work_49 rt xt) := by
    refine wq_istore_ok h0 kd_M_work_49 (Nat.le_of_ble_eq_true rfl) ?_
    refine wq_aload_n_ok h0 kd_M_work_51 rfl ?_
    refine wq_iload_ok h0 kd_M_work_52 ?_
    refine wq_if_ne_ok (tgt := 61) h0 kd_M_work_54 (by decide) ?_ ?_
    · exact hb_61
    refine wq_iconst_ok h0 kd_M_work_57 (by decide +kernel) ?_
    refine wq_goto_ok (tgt := 89) h0 kd_M_work_58 (by decide) ?_
    exact hb_89
  have hb_48 : wq_Snd p l e ({ frames := 1, cells := 0, slots := 0, locals := 27 } : Room) s m args below meth c 8 cs D kz_cl A (wq_G0 ad w) (wq_Q cs D kz_cl A (wq_G0 ad w) rt xt below s 0 0) 48 (kt_M_work_48 rt xt) := by
    refine wq_iconst_ok h0 kd_M_work_48 (by decide +kernel) ?_
    exact hb_49
  have hb_0 : wq_Snd p l e ({ frames := 1, cells := 0, slots := 0, locals := 27 } : Room) s m args below meth c 8 cs D kz_cl A (wq_G0 ad w) (wq_Q cs D kz_cl A (wq_G0 ad w) rt xt below s 0 0) 0 (kt_M_work_0 rt xt) := by
    refine wq_iload_n_ok h0 kd_M_work_0 rfl ?_
    refine wq_iconst_ok h0 kd_M_work_1 (by decide +kernel) ?_
    refine wq_bipush_ok h0 kd_M_work_2 (by decide +kernel) ?_
    refine wq_call_ok hA (wq_runS ⟨h0.1, h0.2, hml, hown, hts⟩ (kv_M_within hl) ⟨(wq_cB hts kw_G kw_1209 kw_10 kw_1207 ⟨by decide +kernel, by decide +kernel, by decide +kernel⟩ rfl rfl ⟨Nat.le_of_ble_eq_true rfl, Nat.le_of_ble_eq_true rfl⟩), hts _ kw_1208⟩ hK hZ hN hA kd_M_work_4) (wq_xout_ok hnt hlk) ?_
    refine wq_if_eq_ok (tgt := 48) h0 kd_M_work_7 (by decide) ?_ ?_
    · exact hb_48
    refine wq_iload_n_ok h0 kd_M_work_10 rfl ?_
    refine wq_iconst_ok h0 kd_M_work_11 (by decide +kernel) ?_
    refine wq_bipush_ok h0 kd_M_work_12 (by decide +kernel) ?_
    refine wq_call_ok hA (wq_runS ⟨h0.1, h0.2, hml, hown, hts⟩ (kv_M_within hl) ⟨(wq_cB hts kw_G kw_1209 kw_10 kw_1207 ⟨by decide +kernel, by decide +kernel, by decide +kernel⟩ rfl rfl ⟨Nat.le_of_ble_eq_true rfl, Nat.le_of_ble_eq_true rfl⟩), hts _ kw_1208⟩ hK hZ hN hA kd_M_work_14) (wq_xout_ok hnt hlk) ?_
    refine wq_if_eq_ok (tgt := 48) h0 kd_M_work_17 (by decide) ?_ ?_
    · exact hb_48
    refine wq_iload_n_ok h0 kd_M_work_20 rfl ?_
    refine wq_iload_n_ok h0 kd_M_work_21 rfl ?_
    refine wq_icmp_eq_ok (tgt := 48) h0 kd_M_work_22 (by decide) ?_ ?_
    · exact hb_48
    refine wq_iload_ok h0 kd_M_work_25 ?_
    refine wq_iconst_ok h0 kd_M_work_27 (by decide +kernel) ?_
    refine wq_icmp_lt_ok (tgt := 48) h0 kd_M_work_28 (by decide) ?_ ?_
    · exact hb_48
    refine wq_iload_ok h0 kd_M_work_31 ?_
    refine wq_iload_n_ok h0 kd_M_work_33 rfl ?_
    refine wq_icmp_gt_ok (tgt := 48) h0 kd_M_work_34 (by decide) ?_ ?_
    · exact hb_48
    refine wq_iload_n_ok h0 kd_M_work_37 rfl ?_
    refine wq_sipush_ok h0 kd_M_work_38 (by decide +kernel) ?_
    refine wq_icmp_gt_ok (tgt := 48) h0 kd_M_work_41 (by decide) ?_ ?_
    · exact hb_48
    refine wq_iconst_ok h0 kd_M_work_44 (by decide +kernel) ?_
    refine wq_goto_ok (tgt := 49) h0 kd_M_work_45 (by decide) ?_
    exact hb_49
  exact hb_0 _ _ _ _ _ (wq_sp_t hsp)
-- BorderDeskModel.lot(II)J
def kt_M_lot_72 (rt : Option wq_V → wq_W → Prop) (xt : Nat → wq_W → Prop) : wq_T := (wq_aload 0 (wq_get 9 57 (wq_iload 1 (wq_iald (wq_i2l (wq_lreturn 0 0 rt))))))
def kt_M_lot_80 (rt : Option wq_V → wq_W → Prop) (xt : Nat → wq_W → Prop) : wq_T := (wq_aload 0 (wq_get 9 58 (wq_iload 1 (wq_iald (wq_i2l (wq_lreturn 0 0 rt))))))
def kt_M_lot_88 (rt : Option wq_V → wq_W → Prop) (xt : Nat → wq_W → Prop) : wq_T := (wq_aload 0 (wq_get 9 59 (wq_iload 1 (wq_iald (wq_i2l (wq_lreturn 0 0 rt))))))
def kt_M_lot_96 (rt : Option wq_V → wq_W → Prop) (xt : Nat → wq_W → Prop) : wq_T := (wq_aload 0 (wq_get 9 60 (wq_iload 1 (wq_lald (wq_lreturn 0 0 rt)))))
def kt_M_lot_117 (rt : Option wq_V → wq_W → Prop) (xt : Nat → wq_W → Prop) : wq_T := (wq_lreturn 0 0 rt)
def kt_M_lot_116 (rt : Option wq_V → wq_W → Prop) (xt : Nat → wq_W → Prop) : wq_T := (wq_lconst (0 : Int64) (kt_M_lot_117 rt xt))
def kt_M_lot_103 (rt : Option wq_V → wq_W → Prop) (xt : Nat → wq_W → Prop) : wq_T := (wq_aload 0 (wq_get 9 61 (wq_iload 1 (wq_zald (wq_f1 (fun x => x = 0) (kt_M_lot_116 rt xt) (wq_lconst (1 : Int64) (kt_M_lot_117 rt xt)))))))
def kt_M_lot_39 (rt : Option wq_V → wq_W → Prop) (xt : Nat → wq_W → Prop) : wq_T := (wq_iload 2 (wq_sw [((nI 0), (kt_M_lot_72 rt xt)), ((nI 1), (kt_M_lot_80 rt xt)), ((nI 2), (kt_M_lot_88 rt xt)), ((nI 3), (kt_M_lot_96 rt xt))] (kt_M_lot_103 rt xt)))
def kt_M_lot_27 (rt : Option wq_V → wq_W → Prop) (xt : Nat → wq_W → Prop) : wq_T := (wq_put 9 0 wq_isI (wq_aload 0 (wq_get 9 0 (wq_f1 (fun x => x ≤ 0) (kt_M_lot_39 rt xt) (wq_lconst (0 : Int64) (wq_lreturn 0 0 rt))))))
def kt_M_lot_26 (rt : Option wq_V → wq_W → Prop) (xt : Nat → wq_W → Prop) : wq_T := (wq_iconst (nI 1) (kt_M_lot_27 rt xt))
def kt_M_lot_0 (rt : Option wq_V → wq_W → Prop) (xt : Nat → wq_W → Prop) : wq_T := (wq_aload 0 (wq_iload 1 (wq_f1 (fun x => x < 0) (kt_M_lot_26 rt xt) (wq_iload 1 (wq_aload 0 (wq_get 9 56 (wq_f2 (fun x y => y ≤ x) (kt_M_lot_26 rt xt) (wq_iload 2 (wq_iconst (nI 0) (wq_iconst (nI 4) (wq_call ks_M_within 3 0 0 0 0 (wq_xout 0 0 xt) (wq_f1 (fun x => x = 0) (kt_M_lot_26 rt xt) (wq_iconst (nI 0) (kt_M_lot_27 rt xt))))))))))))))
def ks_M_lot : wq_S := wq_sp 3 (fun rt xt => kt_M_lot_0 rt xt)
set_option maxRecDepth 100000 in
set_option maxHeartbeats 4000000 in
theorem kv_M_lot {l : Launch} (hl : l.stackTraces = false) : wq_Vld l kz_cl ky_M_lot kw_T ({ frames := 1, cells := 0, slots := 0, locals := 22 }) wq_G0 ks_M_lot 0 0 := by
  refine wq_method (cc := kc_M_lot) (maxL := 3) (ret := (some .long)) (by decide) kw_1400 (fun _ _ => rfl) wq_sp_sz ?_
  intro p e s m args below meth c cs D ad as w rt xt hF hnt hsp
  obtain ⟨h0, hr, hts, hown, hlk, hnm, hml, hK, hZ, hN, hA⟩ := hF
  have hown : s.vm.findClass "BorderDeskModel" = some m.cls := hown
  obtain ⟨A, hAe⟩ : ∃ A, A = wq_A ad w s.heap.size := ⟨_, rfl⟩
  rw [← hAe] at hZ hA ⊢
  have hb_72 : wq_Snd p l e ({ frames := 1, cells := 0, slots := 0, locals := 22 } : Room) s m args below meth c 3 cs D kz_cl A (wq_G0 ad w) (wq_Q cs D kz_cl A (wq_G0 ad w) rt xt below s 0 0) 72 (kt_M_lot_72 rt xt) := by
    refine wq_aload_n_ok h0 kd_M_lot_72 rfl ?_
    refine wq_get_ok (wq_getOK h0 hts ki_M hown hK (ci := 9) rfl 57 (Nat.le_of_ble_eq_true rfl) kw_1039 rfl) kd_M_lot_73 ?_
    refine wq_iload_n_ok h0 kd_M_lot_76 rfl ?_
    refine wq_iald_ok h0 hK kd_M_lot_77 ?_
    refine wq_i2l_ok h0 kd_M_lot_78 ?_
    exact wq_lreturn_ok h0 hr hlk kd_M_lot_79
  have hb_80 : wq_Snd p l e ({ frames := 1, cells := 0, slots := 0, locals := 22 } : Room) s m args below meth c 3 cs D kz_cl A (wq_G0 ad w) (wq_Q cs D kz_cl A (wq_G0 ad w) rt xt below s 0 0) 80 (kt_M_lot_80 rt xt) := by
    refine wq_aload_n_ok h0 kd_M_lot_80 rfl ?_
    refine wq_get_ok (wq_getOK h0 hts ki_M hown hK (ci := 9) rfl 58 (Nat.le_of_ble_eq_true rfl) kw_1040 rfl) kd_M_lot_81 ?_
    refine wq_iload_n_ok h0 kd_M_lot_84 rfl ?_
    refine wq_iald_ok h0 hK kd_M_lot_85 ?_
    refine wq_i2l_ok h0 kd_M_lot_86 ?_
    exact wq_lreturn_ok h0 hr hlk kd_M_lot_87
  have hb_88 : wq_Snd p l e ({ frames := 1, cells := 0, slots := 0, locals := 22 } : Room) s m args below meth c 3 cs D kz_cl A (wq_G0 ad w) (wq_Q cs D kz_cl A (wq_G0 ad w) rt xt below s 0 0) 88 (kt_M_lot_88 rt xt) := by
    refine wq_aload_n_ok h0 kd_M_lot_88 rfl ?_
    refine wq_get_ok (wq_getOK h0 hts ki_M hown hK (ci := 9) rfl 59 (Nat.le_of_ble_eq_true rfl) kw_1041 rfl) kd_M_lot_89 ?_
    refine wq_iload_n_ok h0 kd_M_lot_92 rfl ?_
    refine wq_iald_ok h0 hK kd_M_lot_93 ?_
    refine wq_i2l_ok h0 kd_M_lot_94 ?_
    exact wq_lreturn_ok h0 hr hlk kd_M_lot_95
  have hb_96 : wq_Snd p l e ({ frames := 1, cells := 0, slots := 0, locals := 22 } : Room) s m args below meth c 3 cs D kz_cl A (wq_G0 ad w) (wq_Q cs D kz_cl A (wq_G0 ad w) rt xt below s 0 0) 96 (kt_M_lot_96 rt xt) := by
    refine wq_aload_n_ok h0 kd_M_lot_96 rfl ?_
    refine wq_get_ok (wq_getOK h0 hts ki_M hown hK (ci := 9) rfl 60 (Nat.le_of_ble_eq_true rfl) kw_1042 rfl) kd_M_lot_97 ?_
    refine wq_iload_n_ok h0 kd_M_lot_100 rfl ?_
    refine wq_lald_ok h0 hK kd_M_lot_101 ?_
    exact wq_lreturn_ok h0 hr hlk kd_M_lot_102
  have hb_117 : wq_Snd p l e ({ frames := 1, cells := 0, slots := 0, locals := 22 } : Room) s m args below meth c 3 cs D kz_cl A (wq_G0 ad w) (wq_Q cs D kz_cl A (wq_G0 ad w) rt xt below s 0 0) 117 (kt_M_lot_117 rt xt) := by
    exact wq_lreturn_ok h0 hr hlk kd_M_lot_117
  have hb_116 : wq_Snd p l e ({ frames := 1, cells := 0, slots := 0, locals := 22 } : Room) s m args below meth c 3 cs D kz_cl A (wq_G0 ad w) (wq_Q cs D kz_cl A (wq_G0 ad w) rt xt below s 0 0) 116 (kt_M_lot_116 rt xt) := by
    refine wq_lconst_ok h0 kd_M_lot_116 (by decide +kernel) ?_
    exact hb_117
  have hb_103 : wq_Snd p l e ({ frames := 1, cells := 0, slots := 0, locals := 22 } : Room) s m args below meth c 3 cs D kz_cl A (wq_G0 ad w) (wq_Q cs D kz_cl A (wq_G0 ad w) rt xt below s 0 0) 103 (kt_M_lot_103 rt xt) := by
    refine wq_aload_n_ok h0 kd_M_lot_103 rfl ?_
    refine wq_get_ok (wq_getOK h0 hts ki_M hown hK (ci := 9) rfl 61 (Nat.le_of_ble_eq_true rfl) kw_1043 rfl) kd_M_lot_104 ?_
    refine wq_iload_n_ok h0 kd_M_lot_107 rfl ?_
    refine wq_zald_ok h0 hK kd_M_lot_108 ?_
    refine wq_if_eq_ok (tgt := 116) h0 kd_M_lot_109 (by decide) ?_ ?_
    · exact hb_116
    refine wq_lconst_ok h0 kd_M_lot_112 (by decide +kernel) ?_
    refine wq_goto_ok (tgt := 117) h0 kd_M_lot_113 (by decide) ?_
    exact hb_117
  have hb_39 : wq_Snd p l e ({ frames := 1, cells := 0, slots := 0, locals := 22 } : Room) s m args below meth c 3 cs D kz_cl A (wq_G0 ad w) (wq_Q cs D kz_cl A (wq_G0 ad w) rt xt below s 0 0) 39 (kt_M_lot_39 rt xt) := by
    refine wq_iload_n_ok h0 kd_M_lot_39 rfl ?_
    refine wq_sw_ok ?_ ?_
    · exact List.forall_mem_cons.mpr ⟨⟨72, (by exact hb_72), fun H locs n1 n2 ls rest hw => lv_tableIn (tgt := 72) (off := 32) h0.1 h0.2 kd_M_lot_40 (show ¬ (nI 0).toInt < 0 by decide +kernel) (show ¬ 3 < (nI 0).toInt by decide +kernel) (show (#[32, 40, 48, 56] : Array Int)[((nI 0).toInt - 0).toNat]? = some 32 by decide +kernel) (by decide) hw⟩, List.forall_mem_cons.mpr ⟨⟨80, (by exact hb_80), fun H locs n1 n2 ls rest hw => lv_tableIn (tgt := 80) (off := 40) h0.1 h0.2 kd_M_lot_40 (show ¬ (nI 1).toInt < 0 by decide +kernel) (show ¬ 3 < (nI 1).toInt by decide +kernel) (show (#[32, 40, 48, 56] : Array Int)[((nI 1).toInt - 0).toNat]? = some 40 by decide +kernel) (by decide) hw⟩, List.forall_mem_cons.mpr ⟨⟨88, (by exact hb_88), fun H locs n1 n2 ls rest hw => lv_tableIn (tgt := 88) (off := 48) h0.1 h0.2 kd_M_lot_40 (show ¬ (nI 2).toInt < 0 by decide +kernel) (show ¬ 3 < (nI 2).toInt by decide +kernel) (show (#[32, 40, 48, 56] : Array Int)[((nI 2).toInt - 0).toNat]? = some 48 by decide +kernel) (by decide) hw⟩, List.forall_mem_cons.mpr ⟨⟨96, (by exact hb_96), fun H locs n1 n2 ls rest hw => lv_tableIn (tgt := 96) (off := 56) h0.1 h0.2 kd_M_lot_40 (show ¬ (nI 3).toInt < 0 by decide +kernel) (show ¬ 3 < (nI 3).toInt by decide +kernel) (show (#[32, 40, 48, 56] : Array Int)[((nI 3).toInt - 0).toNat]? = some 56 by decide +kernel) (by decide) hw⟩, fun _ h => absurd h List.not_mem_nil⟩⟩⟩⟩
    · exact ⟨103, (by exact hb_103), fun H locs n1 n2 ls rest x hq hw => lv_tableOut (tgt := 103) h0.1 h0.2 kd_M_lot_40 (wq_tabO 0 3 (by decide) (fun k h1 h2 => by rcases (show k = 0 ∨ k = 1 ∨ k = 2 ∨ k = 3 by omega) with rfl | rfl | rfl | rfl <;> first | exact hq _ List.mem_cons_self | exact hq _ (List.mem_cons_of_mem _ List.mem_cons_self) | exact hq _ (List.mem_cons_of_mem _ (List.mem_cons_of_mem _ List.mem_cons_self)) | exact hq _ (List.mem_cons_of_mem _ (List.mem_cons_of_mem _ (List.mem_cons_of_mem _ List.mem_cons_self))))) (by decide) hw⟩
  have hb_27 : wq_Snd p l e ({ frames := 1, cells := 0, slots := 0, locals := 22 } : Room) s m args below meth c 3 cs D kz_cl A (wq_G0 ad w) (wq_Q cs D kz_cl A (wq_G0 ad w) rt xt below s 0 0) 27 (kt_M_lot_27 rt xt) := by
    refine wq_put_ok (wq_putOK h0 hts ki_M ka_M kb_M kn_M hown hK (ci := 9) rfl 0 (Nat.le_of_ble_eq_true rfl) kw_982 rfl (Or.inl rfl) wq_okI) kd_M_lot_27 ?_
    refine wq_aload_n_ok h0 kd_M_lot_30 rfl ?_
    refine wq_get_ok (wq_getOK h0 hts ki_M hown hK (ci := 9) rfl 0 (Nat.le_of_ble_eq_true rfl) kw_982 rfl) kd_M_lot_31 ?_
    refine wq_if_le_ok (tgt := 39) h0 kd_M_lot_34 (by decide) ?_ ?_
    · exact hb_39
    refine wq_lconst_ok h0 kd_M_lot_37 (by decide +kernel) ?_
    exact wq_lreturn_ok h0 hr hlk kd_M_lot_38
  have hb_26 : wq_Snd p l e ({ frames := 1, cells := 0, slots := 0, locals := 22 } : Room) s m args below meth c 3 cs D kz_cl A (wq_G0 ad w) (wq_Q cs D kz_cl A (wq_G0 ad w) rt xt below s 0 0) 26 (kt_M_lot_26 rt xt) := by
    refine wq_iconst_ok h0 kd_M_lot_26 (by decide +kernel) ?_
    exact hb_27
  have hb_0 : wq_Snd p l e ({ frames := 1, cells := 0, slots := 0, locals := 22 } : Room) s m args below meth c 3 cs D kz_cl A (wq_G0 ad w) (wq_Q cs D kz_cl A (wq_G0 ad w) rt xt below s 0 0) 0 (kt_M_lot_0 rt xt) := by
    refine wq_aload_n_ok h0 kd_M_lot_0 rfl ?_
    refine wq_iload_n_ok h0 kd_M_lot_1 rfl ?_
    refine wq_if_lt_ok (tgt := 26) h0 kd_M_lot_2 (by decide) ?_ ?_
    · exact hb_26
    refine wq_iload_n_ok h0 kd_M_lot_5 rfl ?_
    refine wq_aload_n_ok h0 kd_M_lot_6 rfl ?_
    refine wq_get_ok (wq_getOK h0 hts ki_M hown hK (ci := 9) rfl 56 (Nat.le_of_ble_eq_true rfl) kw_1038 rfl) kd_M_lot_7 ?_
    refine wq_icmp_ge_ok (tgt := 26) h0 kd_M_lot_10 (by decide) ?_ ?_
    · exact hb_26
    refine wq_iload_n_ok h0 kd_M_lot_13 rfl ?_
    refine wq_iconst_ok h0 kd_M_lot_14 (by decide +kernel) ?_
    refine wq_iconst_ok h0 kd_M_lot_15 (by decide +kernel) ?_
    refine wq_call_ok hA (wq_runS ⟨h0.1, h0.2, hml, hown, hts⟩ (kv_M_within hl) ⟨(wq_cB hts kw_G kw_1209 kw_10 kw_1207 ⟨by decide +kernel, by decide +kernel, by decide +kernel⟩ rfl rfl ⟨Nat.le_of_ble_eq_true rfl, Nat.le_of_ble_eq_true rfl⟩), hts _ kw_1208⟩ hK hZ hN hA kd_M_lot_16) (wq_xout_ok hnt hlk) ?_
    refine wq_if_eq_ok (tgt := 26) h0 kd_M_lot_19 (by decide) ?_ ?_
    · exact hb_26
    refine wq_iconst_ok h0 kd_M_lot_22 (by decide +kernel) ?_
    refine wq_goto_ok (tgt := 27) h0 kd_M_lot_23 (by decide) ?_
    exact hb_27
  exact hb_0 _ _ _ _ _ (wq_sp_t hsp)
-- BorderDeskModel.came(IZ)I
def kt_M_came_66 (rt : Option wq_V → wq_W → Prop) (xt : Nat → wq_W → Prop) (K : Nat → wq_T) : wq_T := (wq_iload 3 (wq_ireturn 0 0 rt))
def kt_M_came_59 (rt : Option wq_V → wq_W → Prop) (xt : Nat → wq_W → Prop) (K : Nat → wq_T) : wq_T := (wq_istore 3 (wq_iinc 4 (nI 1) (K 5)))
def kt_M_came_58 (rt : Option wq_V → wq_W → Prop) (xt : Nat → wq_W → Prop) (K : Nat → wq_T) : wq_T := (wq_iload 3 (kt_M_came_59 rt xt K))
def kh_M_came_5 (rt : Option wq_V → wq_W → Prop) (xt : Nat → wq_W → Prop) (K : Nat → wq_T) : wq_T := (wq_iload 4 (wq_aload 0 (wq_get 9 56 (wq_f2 (fun x y => y ≤ x) (kt_M_came_66 rt xt K) (wq_aload 0 (wq_get 9 57 (wq_iload 4 (wq_iald (wq_iload 1 (wq_f2 (fun x y => x = y) (wq_aload 0 (wq_get 9 61 (wq_iload 4 (wq_zald (wq_f1 (fun x => x = 0) (kt_M_came_58 rt xt K) (wq_aload 0 (wq_get 9 62 (wq_iload 4 (wq_zald (wq_iload 2 (wq_f2 (fun x y => x = y) (wq_iload 3 (wq_aload 0 (wq_get 9 58 (wq_iload 4 (wq_iald (wq_i2 (fun x y => x + y) (kt_M_came_59 rt xt K))))))) (kt_M_came_58 rt xt K)))))))))))) (kt_M_came_58 rt xt K)))))))))))
def kt_M_came_0 (rt : Option wq_V → wq_W → Prop) (xt : Nat → wq_W → Prop) (K : Nat → wq_T) : wq_T := (wq_iconst (nI 0) (wq_istore 3 (wq_iconst (nI 0) (wq_istore 4 (K 5)))))
def ku_M_came (rt : Option wq_V → wq_W → Prop) (xt : Nat → wq_W → Prop) : Nat → Nat → wq_T
  | 0, _ => fun _ _ _ _ _ => False
  | n + 1, pc => cond (Nat.beq pc 5) (kh_M_came_5 rt xt (ku_M_came rt xt n)) (fun _ _ _ _ _ => False)
def ks_M_came : wq_S := wq_sp 5 (fun rt xt => kt_M_came_0 rt xt (ku_M_came rt xt 40))
set_option maxRecDepth 100000 in
set_option maxHeartbeats 4000000 in
theorem kv_M_came {l : Launch} (hl : l.stackTraces = false) : wq_Vld l kz_cl ky_M_came kw_T ({ frames := 0, cells := 0, slots := 0, locals := 0 }) wq_G0 ks_M_came 0 0 := by
  refine wq_method (cc := kc_M_came) (maxL := 5) (ret := (some .int)) (by decide) kw_1408 (fun _ _ => rfl) wq_sp_sz ?_
  intro p e s m args below meth c cs D ad as w rt xt hF hnt hsp
  obtain ⟨h0, hr, hts, hown, hlk, hnm, hml, hK, hZ, hN, hA⟩ := hF
  have hown : s.vm.findClass "BorderDeskModel" = some m.cls := hown
  obtain ⟨A, hAe⟩ : ∃ A, A = wq_A ad w s.heap.size := ⟨_, rfl⟩
  rw [← hAe] at hZ hA ⊢
  have hall : ∀ K : Nat → wq_T, (∀ pc, pc ∈ [5] → wq_Snd p l e ({ frames := 0, cells := 0, slots := 0, locals := 0 } : Room) s m args below meth c 5 cs D kz_cl A (wq_G0 ad w) (wq_Q cs D kz_cl A (wq_G0 ad w) rt xt below s 0 0) pc (K pc)) → (∀ pc, pc ∈ [5] → wq_Snd p l e ({ frames := 0, cells := 0, slots := 0, locals := 0 } : Room) s m args below meth c 5 cs D kz_cl A (wq_G0 ad w) (wq_Q cs D kz_cl A (wq_G0 ad w) rt xt below s 0 0) pc (cond (Nat.beq pc 5) (kh_M_came_5 rt xt K) (fun _ _ _ _ _ => False))) ∧ wq_Snd p l e ({ frames := 0, cells := 0, slots := 0, locals := 0 } : Room) s m args below meth c 5 cs D kz_cl A (wq_G0 ad w) (wq_Q cs D kz_cl A (wq_G0 ad w) rt xt below s 0 0) 0 (kt_M_came_0 rt xt K) := by
    intro K hKc
    have hb_66 : wq_Snd p l e ({ frames := 0, cells := 0, slots := 0, locals := 0 } : Room) s m args below meth c 5 cs D kz_cl A (wq_G0 ad w) (wq_Q cs D kz_cl A (wq_G0 ad w) rt xt below s 0 0) 66 (kt_M_came_66 rt xt K) := by
      refine wq_iload_n_ok h0 kd_M_came_66 rfl ?_
      exact wq_ireturn_ok h0 hr hlk kd_M_came_67
    have hb_59 : wq_Snd p l e ({ frames := 0, cells := 0, slots := 0, locals := 0 } : Room) s m args below meth c 5 cs D kz_cl A (wq_G0 ad w) (wq_Q cs D kz_cl A (wq_G0 ad w) rt xt below s 0 0) 59 (kt_M_came_59 rt xt K) := by
      refine wq_istore_n_ok h0 kd_M_came_59 rfl (Nat.le_of_ble_eq_true rfl) ?_
      refine wq_iinc_ok h0 kd_M_came_60 (by decide +kernel) (Nat.le_of_ble_eq_true rfl) ?_
      refine wq_goto_ok (tgt := 5) h0 kd_M_came_63 (by decide) ?_
      exact hKc 5 (by decide)
    have hb_58 : wq_Snd p l e ({ frames := 0, cells := 0, slots := 0, locals := 0 } : Room) s m args below meth c 5 cs D kz_cl A (wq_G0 ad w) (wq_Q cs D kz_cl A (wq_G0 ad w) rt xt below s 0 0) 58 (kt_M_came_58 rt xt K) := by
      refine wq_iload_n_ok h0 kd_M_came_58 rfl ?_
      exact hb_59
    have hb_5 : wq_Snd p l e ({ frames := 0, cells := 0, slots := 0, locals := 0 } : Room) s m args below meth c 5 cs D kz_cl A (wq_G0 ad w) (wq_Q cs D kz_cl A (wq_G0 ad w) rt xt below s 0 0) 5 (kh_M_came_5 rt xt K) := by
      refine wq_iload_ok h0 kd_M_came_5 ?_
      refine wq_aload_n_ok h0 kd_M_came_7 rfl ?_
      refine wq_get_ok (wq_getOK h0 hts ki_M hown hK (ci := 9) rfl 56 (Nat.le_of_ble_eq_true rfl) kw_1038 rfl) kd_M_came_8 ?_
      refine wq_icmp_ge_ok (tgt := 66) h0 kd_M_came_11 (by decide) ?_ ?_
      · exact hb_66
      refine wq_aload_n_ok h0 kd_M_came_14 rfl ?_
      refine wq_get_ok (wq_getOK h0 hts ki_M hown hK (ci := 9) rfl 57 (Nat.le_of_ble_eq_true rfl) kw_1039 rfl) kd_M_came_15 ?_
      refine wq_iload_ok h0 kd_M_came_18 ?_
      refine wq_iald_ok h0 hK kd_M_came_20 ?_
      refine wq_iload_n_ok h0 kd_M_came_21 rfl ?_
      refine wq_icmp_ne_ok (tgt := 58) h0 kd_M_came_22 (by decide) ?_ ?_
      · exact hb_58
      refine wq_aload_n_ok h0 kd_M_came_25 rfl ?_
      refine wq_get_ok (wq_getOK h0 hts ki_M hown hK (ci := 9) rfl 61 (Nat.le_of_ble_eq_true rfl) kw_1043 rfl) kd_M_came_26 ?_
      refine wq_iload_ok h0 kd_M_came_29 ?_
      refine wq_zald_ok h0 hK kd_M_came_31 ?_
      refine wq_if_eq_ok (tgt := 58) h0 kd_M_came_32 (by decide) ?_ ?_
      · exact hb_58
      refine wq_aload_n_ok h0 kd_M_came_35 rfl ?_
      refine wq_get_ok (wq_getOK h0 hts ki_M hown hK (ci := 9) rfl 62 (Nat.le_of_ble_eq_true rfl) kw_1044 rfl) kd_M_came_36 ?_
      refine wq_iload_ok h0 kd_M_came_39 ?_
      refine wq_zald_ok h0 hK kd_M_came_41 ?_
      refine wq_iload_n_ok h0 kd_M_came_42 rfl ?_
      refine wq_icmp_ne_ok (tgt := 58) h0 kd_M_came_43 (by decide) ?_ ?_
      · exact hb_58
      refine wq_iload_n_ok h0 kd_M_came_46 rfl ?_
      refine wq_aload_n_ok h0 kd_M_came_47 rfl ?_
      refine wq_get_ok (wq_getOK h0 hts ki_M hown hK (ci := 9) rfl 58 (Nat.le_of_ble_eq_true rfl) kw_1040 rfl) kd_M_came_48 ?_
      refine wq_iload_ok h0 kd_M_came_51 ?_
      refine wq_iald_ok h0 hK kd_M_came_53 ?_
      refine wq_iadd_ok h0 kd_M_came_54 ?_
      refine wq_goto_ok (tgt := 59) h0 kd_M_came_55 (by decide) ?_
      exact hb_59
    have hb_0 : wq_Snd p l e ({ frames := 0, cells := 0, slots := 0, locals := 0 } : Room) s m args below meth c 5 cs D kz_cl A (wq_G0 ad w) (wq_Q cs D kz_cl A (wq_G0 ad w) rt xt below s 0 0) 0 (kt_M_came_0 rt xt K) := by
      refine wq_iconst_ok h0 kd_M_came_0 (by decide +kernel) ?_
      refine wq_istore_n_ok h0 kd_M_came_1 rfl (Nat.le_of_ble_eq_true rfl) ?_
      refine wq_iconst_ok h0 kd_M_came_2 (by decide +kernel) ?_
      refine wq_istore_ok h0 kd_M_came_3 (Nat.le_of_ble_eq_true rfl) ?_
      exact hKc 5 (by decide)
    refine ⟨?_, hb_0⟩
    exact List.forall_mem_cons.mpr ⟨hb_5, fun _ h => absurd h List.not_mem_nil⟩
  have hun : ∀ (n pc : Nat), pc ∈ [5] → wq_Snd p l e ({ frames := 0, cells := 0, slots := 0, locals := 0 } : Room) s m args below meth c 5 cs D kz_cl A (wq_G0 ad w) (wq_Q cs D kz_cl A (wq_G0 ad w) rt xt below s 0 0) pc (ku_M_came rt xt n pc) := by
    intro n
    induction n with
    | zero => intro pc _ L S w9 n1 n2 h; exact h.elim
    | succ n ih => intro pc hpc; exact (hall (ku_M_came rt xt n) ih).1 pc hpc
  exact (hall (ku_M_came rt xt 40) (hun 40)).2 _ _ _ _ _ (wq_sp_t hsp)
-- BorderDeskModel.account(II)J
def kt_M_account_72 (rt : Option wq_V → wq_W → Prop) (xt : Nat → wq_W → Prop) : wq_T := (wq_aload 0 (wq_iload 1 (wq_iconst (nI 0) (wq_call (wq_rv 9 ks_M_came) 3 0 0 0 0 (wq_xout 0 0 xt) (wq_i2l (wq_lreturn 0 0 rt))))))
def kt_M_account_80 (rt : Option wq_V → wq_W → Prop) (xt : Nat → wq_W → Prop) : wq_T := (wq_aload 0 (wq_iload 1 (wq_iconst (nI 1) (wq_call (wq_rv 9 ks_M_came) 3 0 0 0 0 (wq_xout 0 0 xt) (wq_i2l (wq_lreturn 0 0 rt))))))
def kt_M_account_88 (rt : Option wq_V → wq_W → Prop) (xt : Nat → wq_W → Prop) : wq_T := (wq_aload 0 (wq_get 9 63 (wq_iload 1 (wq_iald (wq_i2l (wq_lreturn 0 0 rt))))))
def kt_M_account_96 (rt : Option wq_V → wq_W → Prop) (xt : Nat → wq_W → Prop) : wq_T := (wq_aload 0 (wq_get 9 64 (wq_iload 1 (wq_iald (wq_i2l (wq_lreturn 0 0 rt))))))
def kt_M_account_104 (rt : Option wq_V → wq_W → Prop) (xt : Nat → wq_W → Prop) : wq_T := (wq_aload 0 (wq_get 9 65 (wq_iload 1 (wq_iald (wq_i2l (wq_lreturn 0 0 rt))))))
def kt_M_account_112 (rt : Option wq_V → wq_W → Prop) (xt : Nat → wq_W → Prop) : wq_T := (wq_aload 0 (wq_iload 1 (wq_iconst (nI 1) (wq_call (wq_rv 9 ks_M_left) 3 0 0 0 0 (wq_xout 0 0 xt) (wq_i2l (wq_lreturn 0 0 rt))))))
def kt_M_account_37 (rt : Option wq_V → wq_W → Prop) (xt : Nat → wq_W → Prop) : wq_T := (wq_iload 2 (wq_sw [((nI 0), (kt_M_account_72 rt xt)), ((nI 1), (kt_M_account_80 rt xt)), ((nI 2), (kt_M_account_88 rt xt)), ((nI 3), (kt_M_account_96 rt xt)), ((nI 4), (kt_M_account_104 rt xt))] (kt_M_account_112 rt xt)))
def kt_M_account_25 (rt : Option wq_V → wq_W → Prop) (xt : Nat → wq_W → Prop) : wq_T := (wq_put 9 0 wq_isI (wq_aload 0 (wq_get 9 0 (wq_f1 (fun x => x ≤ 0) (kt_M_account_37 rt xt) (wq_lconst (0 : Int64) (wq_lreturn 0 0 rt))))))
def kt_M_account_24 (rt : Option wq_V → wq_W → Prop) (xt : Nat → wq_W → Prop) : wq_T := (wq_iconst (nI 1) (kt_M_account_25 rt xt))
def kt_M_account_0 (rt : Option wq_V → wq_W → Prop) (xt : Nat → wq_W → Prop) : wq_T := (wq_aload 0 (wq_iload 1 (wq_iconst (nI 0) (wq_iconst (nI 15) (wq_call ks_M_within 3 0 0 0 0 (wq_xout 0 0 xt) (wq_f1 (fun x => x = 0) (kt_M_account_24 rt xt) (wq_iload 2 (wq_iconst (nI 0) (wq_iconst (nI 5) (wq_call ks_M_within 3 0 0 0 0 (wq_xout 0 0 xt) (wq_f1 (fun x => x = 0) (kt_M_account_24 rt xt) (wq_iconst (nI 0) (kt_M_account_25 rt xt)))))))))))))
def ks_M_account : wq_S := wq_sp 3 (fun rt xt => kt_M_account_0 rt xt)
set_option maxRecDepth 100000 in
set_option maxHeartbeats 4000000 in
theorem kv_M_account {l : Launch} (hl : l.stackTraces = false) : wq_Vld l kz_cl ky_M_account kw_T ({ frames := 1, cells := 0, slots := 0, locals := 24 }) wq_G0 ks_M_account 0 0 := by
  refine wq_method (cc := kc_M_account) (maxL := 3) (ret := (some .long)) (by decide) kw_1404 (fun _ _ => rfl) wq_sp_sz ?_
  intro p e s m args below meth c cs D ad as w rt xt hF hnt hsp
  obtain ⟨h0, hr, hts, hown, hlk, hnm, hml, hK, hZ, hN, hA⟩ := hF
  have hown : s.vm.findClass "BorderDeskModel" = some m.cls := hown
  obtain ⟨A, hAe⟩ : ∃ A, A = wq_A ad w s.heap.size := ⟨_, rfl⟩
  rw [← hAe] at hZ hA ⊢
  have hb_72 : wq_Snd p l e ({ frames := 1, cells := 0, slots := 0, locals := 24 } : Room) s m args below meth c 3 cs D kz_cl A (wq_G0 ad w) (wq_Q cs D kz_cl A (wq_G0 ad w) rt xt below s 0 0) 72 (kt_M_account_72 rt xt) := by
    refine wq_aload_n_ok h0 kd_M_account_72 rfl ?_
    refine wq_iload_n_ok h0 kd_M_account_73 rfl ?_
    refine wq_iconst_ok h0 kd_M_account_74 (by decide +kernel) ?_
    refine wq_call_ok hA (wq_runV (ci := 9) ⟨h0.1, h0.2, hml, hown, hts⟩ (kv_M_came hl) ⟨(wq_cB hts kw_G kw_1408 kw_10 kw_1405 ⟨by decide +kernel, by decide +kernel, by decide +kernel⟩ rfl rfl ⟨Nat.le_of_ble_eq_true rfl, Nat.le_of_ble_eq_true rfl⟩), hts _ kw_1407, hts _ kw_s55⟩ rfl rfl hK hZ hN hA kd_M_account_75) (wq_xout_ok hnt hlk) ?_
    refine wq_i2l_ok h0 kd_M_account_78 ?_
    exact wq_lreturn_ok h0 hr hlk kd_M_account_79
  have hb_80 : wq_Snd p l e ({ frames := 1, cells := 0, slots := 0, locals := 24 } : Room) s m args below meth c 3 cs D kz_cl A (wq_G0 ad w) (wq_Q cs D kz_cl A (wq_G0 ad w) rt xt below s 0 0) 80 (kt_M_account_80 rt xt) := by
    refine wq_aload_n_ok h0 kd_M_account_80 rfl ?_
    refine wq_iload_n_ok h0 kd_M_account_81 rfl ?_
    refine wq_iconst_ok h0 kd_M_account_82 (by decide +kernel) ?_
    refine wq_call_ok hA (wq_runV (ci := 9) ⟨h0.1, h0.2, hml, hown, hts⟩ (kv_M_came hl) ⟨(wq_cB hts kw_G kw_1408 kw_10 kw_1405 ⟨by decide +kernel, by decide +kernel, by decide +kernel⟩ rfl rfl ⟨Nat.le_of_ble_eq_true rfl, Nat.le_of_ble_eq_true rfl⟩), hts _ kw_1407, hts _ kw_s55⟩ rfl rfl hK hZ hN hA kd_M_account_83) (wq_xout_ok hnt hlk) ?_
    refine wq_i2l_ok h0 kd_M_account_86 ?_
    exact wq_lreturn_ok h0 hr hlk kd_M_account_87
  have hb_88 : wq_Snd p l e ({ frames := 1, cells := 0, slots := 0, locals := 24 } : Room) s m args below meth c 3 cs D kz_cl A (wq_G0 ad w) (wq_Q cs D kz_cl A (wq_G0 ad w) rt xt below s 0 0) 88 (kt_M_account_88 rt xt) := by
    refine wq_aload_n_ok h0 kd_M_account_88 rfl ?_
    refine wq_get_ok (wq_getOK h0 hts ki_M hown hK (ci := 9) rfl 63 (Nat.le_of_ble_eq_true rfl) kw_1045 rfl) kd_M_account_89 ?_
    refine wq_iload_n_ok h0 kd_M_account_92 rfl ?_
    refine wq_iald_ok h0 hK kd_M_account_93 ?_
    refine wq_i2l_ok h0 kd_M_account_94 ?_
    exact wq_lreturn_ok h0 hr hlk kd_M_account_95
  have hb_96 : wq_Snd p l e ({ frames := 1, cells := 0, slots := 0, locals := 24 } : Room) s m args below meth c 3 cs D kz_cl A (wq_G0 ad w) (wq_Q cs D kz_cl A (wq_G0 ad w) rt xt below s 0 0) 96 (kt_M_account_96 rt xt) := by
    refine wq_aload_n_ok h0 kd_M_account_96 rfl ?_
    refine wq_get_ok (wq_getOK h0 hts ki_M hown hK (ci := 9) rfl 64 (Nat.le_of_ble_eq_true rfl) kw_1046 rfl) kd_M_account_97 ?_
    refine wq_iload_n_ok h0 kd_M_account_100 rfl ?_
    refine wq_iald_ok h0 hK kd_M_account_101 ?_
    refine wq_i2l_ok h0 kd_M_account_102 ?_
    exact wq_lreturn_ok h0 hr hlk kd_M_account_103
  have hb_104 : wq_Snd p l e ({ frames := 1, cells := 0, slots := 0, locals := 24 } : Room) s m args below meth c 3 cs D kz_cl A (wq_G0 ad w) (wq_Q cs D kz_cl A (wq_G0 ad w) rt xt below s 0 0) 104 (kt_M_account_104 rt xt) := by
    refine wq_aload_n_ok h0 kd_M_account_104 rfl ?_
    refine wq_get_ok (wq_getOK h0 hts ki_M hown hK (ci := 9) rfl 65 (Nat.le_of_ble_eq_true rfl) kw_1047 rfl) kd_M_account_105 ?_
    refine wq_iload_n_ok h0 kd_M_account_108 rfl ?_
    refine wq_iald_ok h0 hK kd_M_account_109 ?_
    refine wq_i2l_ok h0 kd_M_account_110 ?_
    exact wq_lreturn_ok h0 hr hlk kd_M_account_111
  have hb_112 : wq_Snd p l e ({ frames := 1, cells := 0, slots := 0, locals := 24 } : Room) s m args below meth c 3 cs D kz_cl A (wq_G0 ad w) (wq_Q cs D kz_cl A (wq_G0 ad w) rt xt below s 0 0) 112 (kt_M_account_112 rt xt) := by
    refine wq_aload_n_ok h0 kd_M_account_112 rfl ?_
    refine wq_iload_n_ok h0 kd_M_account_113 rfl ?_
    refine wq_iconst_ok h0 kd_M_account_114 (by decide +kernel) ?_
    refine wq_call_ok hA (wq_runV (ci := 9) ⟨h0.1, h0.2, hml, hown, hts⟩ (kv_M_left hl) ⟨(wq_cB hts kw_G kw_1384 kw_10 kw_1381 ⟨by decide +kernel, by decide +kernel, by decide +kernel⟩ rfl rfl ⟨Nat.le_of_ble_eq_true rfl, Nat.le_of_ble_eq_true rfl⟩), hts _ kw_1383, hts _ kw_s53⟩ rfl rfl hK hZ hN hA kd_M_account_115) (wq_xout_ok hnt hlk) ?_
    refine wq_i2l_ok h0 kd_M_account_118 ?_
    exact wq_lreturn_ok h0 hr hlk kd_M_account_119
  have hb_37 : wq_Snd p l e ({ frames := 1, cells := 0, slots := 0, locals := 24 } : Room) s m args below meth c 3 cs D kz_cl A (wq_G0 ad w) (wq_Q cs D kz_cl A (wq_G0 ad w) rt xt below s 0 0) 37 (kt_M_account_37 rt xt) := by
    refine wq_iload_n_ok h0 kd_M_account_37 rfl ?_
    refine wq_sw_ok ?_ ?_
    · exact List.forall_mem_cons.mpr ⟨⟨72, (by exact hb_72), fun H locs n1 n2 ls rest hw => lv_tableIn (tgt := 72) (off := 34) h0.1 h0.2 kd_M_account_38 (show ¬ (nI 0).toInt < 0 by decide +kernel) (show ¬ 4 < (nI 0).toInt by decide +kernel) (show (#[34, 42, 50, 58, 66] : Array Int)[((nI 0).toInt - 0).toNat]? = some 34 by decide +kernel) (by decide) hw⟩, List.forall_mem_cons.mpr ⟨⟨80, (by exact hb_80), fun H locs n1 n2 ls rest hw => lv_tableIn (tgt := 80) (off := 42) h0.1 h0.2 kd_M_account_38 (show ¬ (nI 1).toInt < 0 by decide +kernel) (show ¬ 4 < (nI 1).toInt by decide +kernel) (show (#[34, 42, 50, 58, 66] : Array Int)[((nI 1).toInt - 0).toNat]? = some 42 by decide +kernel) (by decide) hw⟩, List.forall_mem_cons.mpr ⟨⟨88, (by exact hb_88), fun H locs n1 n2 ls rest hw => lv_tableIn (tgt := 88) (off := 50) h0.1 h0.2 kd_M_account_38 (show ¬ (nI 2).toInt < 0 by decide +kernel) (show ¬ 4 < (nI 2).toInt by decide +kernel) (show (#[34, 42, 50, 58, 66] : Array Int)[((nI 2).toInt - 0).toNat]? = some 50 by decide +kernel) (by decide) hw⟩, List.forall_mem_cons.mpr ⟨⟨96, (by exact hb_96), fun H locs n1 n2 ls rest hw => lv_tableIn (tgt := 96) (off := 58) h0.1 h0.2 kd_M_account_38 (show ¬ (nI 3).toInt < 0 by decide +kernel) (show ¬ 4 < (nI 3).toInt by decide +kernel) (show (#[34, 42, 50, 58, 66] : Array Int)[((nI 3).toInt - 0).toNat]? = some 58 by decide +kernel) (by decide) hw⟩, List.forall_mem_cons.mpr ⟨⟨104, (by exact hb_104), fun H locs n1 n2 ls rest hw => lv_tableIn (tgt := 104) (off := 66) h0.1 h0.2 kd_M_account_38 (show ¬ (nI 4).toInt < 0 by decide +kernel) (show ¬ 4 < (nI 4).toInt by decide +kernel) (show (#[34, 42, 50, 58, 66] : Array Int)[((nI 4).toInt - 0).toNat]? = some 66 by decide +kernel) (by decide) hw⟩, fun _ h => absurd h List.not_mem_nil⟩⟩⟩⟩⟩
    · exact ⟨112, (by exact hb_112), fun H locs n1 n2 ls rest x hq hw => lv_tableOut (tgt := 112) h0.1 h0.2 kd_M_account_38 (wq_tabO 0 4 (by decide) (fun k h1 h2 => by rcases (show k = 0 ∨ k = 1 ∨ k = 2 ∨ k = 3 ∨ k = 4 by omega) with rfl | rfl | rfl | rfl | rfl <;> first | exact hq _ List.mem_cons_self | exact hq _ (List.mem_cons_of_mem _ List.mem_cons_self) | exact hq _ (List.mem_cons_of_mem _ (List.mem_cons_of_mem _ List.mem_cons_self)) | exact hq _ (List.mem_cons_of_mem _ (List.mem_cons_of_mem _ (List.mem_cons_of_mem _ List.mem_cons_self))) | exact hq _ (List.mem_cons_of_mem _ (List.mem_cons_of_mem _ (List.mem_cons_of_mem _ (List.mem_cons_of_mem _ List.mem_cons_self)))))) (by decide) hw⟩
  have hb_25 : wq_Snd p l e ({ frames := 1, cells := 0, slots := 0, locals := 24 } : Room) s m args below meth c 3 cs D kz_cl A (wq_G0 ad w) (wq_Q cs D kz_cl A (wq_G0 ad w) rt xt below s 0 0) 25 (kt_M_account_25 rt xt) := by
    refine wq_put_ok (wq_putOK h0 hts ki_M ka_M kb_M kn_M hown hK (ci := 9) rfl 0 (Nat.le_of_ble_eq_true rfl) kw_982 rfl (Or.inl rfl) wq_okI) kd_M_account_25 ?_
    refine wq_aload_n_ok h0 kd_M_account_28 rfl ?_
    refine wq_get_ok (wq_getOK h0 hts ki_M hown hK (ci := 9) rfl 0 (Nat.le_of_ble_eq_true rfl) kw_982 rfl) kd_M_account_29 ?_
    refine wq_if_le_ok (tgt := 37) h0 kd_M_account_32 (by decide) ?_ ?_
    · exact hb_37
    refine wq_lconst_ok h0 kd_M_account_35 (by decide +kernel) ?_
    exact wq_lreturn_ok h0 hr hlk kd_M_account_36
  have hb_24 : wq_Snd p l e ({ frames := 1, cells := 0, slots := 0, locals := 24 } : Room) s m args below meth c 3 cs D kz_cl A (wq_G0 ad w) (wq_Q cs D kz_cl A (wq_G0 ad w) rt xt below s 0 0) 24 (kt_M_account_24 rt xt) := by
    refine wq_iconst_ok h0 kd_M_account_24 (by decide +kernel) ?_
    exact hb_25
  have hb_0 : wq_Snd p l e ({ frames := 1, cells := 0, slots := 0, locals := 24 } : Room) s m args below meth c 3 cs D kz_cl A (wq_G0 ad w) (wq_Q cs D kz_cl A (wq_G0 ad w) rt xt below s 0 0) 0 (kt_M_account_0 rt xt) := by
    refine wq_aload_n_ok h0 kd_M_account_0 rfl ?_
    refine wq_iload_n_ok h0 kd_M_account_1 rfl ?_
    refine wq_iconst_ok h0 kd_M_account_2 (by decide +kernel) ?_
    refine wq_bipush_ok h0 kd_M_account_3 (by decide +kernel) ?_
    refine wq_call_ok hA (wq_runS ⟨h0.1, h0.2, hml, hown, hts⟩ (kv_M_within hl) ⟨(wq_cB hts kw_G kw_1209 kw_10 kw_1207 ⟨by decide +kernel, by decide +kernel, by decide +kernel⟩ rfl rfl ⟨Nat.le_of_ble_eq_true rfl, Nat.le_of_ble_eq_true rfl⟩), hts _ kw_1208⟩ hK hZ hN hA kd_M_account_5) (wq_xout_ok hnt hlk) ?_
    refine wq_if_eq_ok (tgt := 24) h0 kd_M_account_8 (by decide) ?_ ?_
    · exact hb_24
    refine wq_iload_n_ok h0 kd_M_account_11 rfl ?_
    refine wq_iconst_ok h0 kd_M_account_12 (by decide +kernel) ?_
    refine wq_iconst_ok h0 kd_M_account_13 (by decide +kernel) ?_
    refine wq_call_ok hA (wq_runS ⟨h0.1, h0.2, hml, hown, hts⟩ (kv_M_within hl) ⟨(wq_cB hts kw_G kw_1209 kw_10 kw_1207 ⟨by decide +kernel, by decide +kernel, by decide +kernel⟩ rfl rfl ⟨Nat.le_of_ble_eq_true rfl, Nat.le_of_ble_eq_true rfl⟩), hts _ kw_1208⟩ hK hZ hN hA kd_M_account_14) (wq_xout_ok hnt hlk) ?_
    refine wq_if_eq_ok (tgt := 24) h0 kd_M_account_17 (by decide) ?_ ?_
    · exact hb_24
    refine wq_iconst_ok h0 kd_M_account_20 (by decide +kernel) ?_
    refine wq_goto_ok (tgt := 25) h0 kd_M_account_21 (by decide) ?_
    exact hb_25
  exact hb_0 _ _ _ _ _ (wq_sp_t hsp)
-- BorderDeskModel.books(I)J
def kt_M_books_44 (rt : Option wq_V → wq_W → Prop) (xt : Nat → wq_W → Prop) : wq_T := (wq_lreturn 0 0 rt)
def kt_M_books_40 (rt : Option wq_V → wq_W → Prop) (xt : Nat → wq_W → Prop) : wq_T := (wq_aload 0 (wq_get 9 67 (kt_M_books_44 rt xt)))
def kt_M_books_29 (rt : Option wq_V → wq_W → Prop) (xt : Nat → wq_W → Prop) : wq_T := (wq_iload 1 (wq_f1 (fun x => x = 0) (wq_aload 0 (wq_get 9 66 (kt_M_books_44 rt xt))) (kt_M_books_40 rt xt)))
def kt_M_books_15 (rt : Option wq_V → wq_W → Prop) (xt : Nat → wq_W → Prop) : wq_T := (wq_put 9 0 wq_isI (wq_aload 0 (wq_get 9 0 (wq_f1 (fun x => x ≤ 0) (kt_M_books_29 rt xt) (wq_lconst (0 : Int64) (kt_M_books_44 rt xt))))))
def kt_M_books_14 (rt : Option wq_V → wq_W → Prop) (xt : Nat → wq_W → Prop) : wq_T := (wq_iconst (nI 1) (kt_M_books_15 rt xt))
def kt_M_books_0 (rt : Option wq_V → wq_W → Prop) (xt : Nat → wq_W → Prop) : wq_T := (wq_aload 0 (wq_iload 1 (wq_iconst (nI 0) (wq_iconst (nI 1) (wq_call ks_M_within 3 0 0 0 0 (wq_xout 0 0 xt) (wq_f1 (fun x => x = 0) (kt_M_books_14 rt xt) (wq_iconst (nI 0) (kt_M_books_15 rt xt))))))))
def ks_M_books : wq_S := wq_sp 2 (fun rt xt => kt_M_books_0 rt xt)
set_option maxRecDepth 100000 in
set_option maxHeartbeats 4000000 in
theorem kv_M_books {l : Launch} (hl : l.stackTraces = false) : wq_Vld l kz_cl ky_M_books kw_T ({ frames := 1, cells := 0, slots := 0, locals := 22 }) wq_G0 ks_M_books 0 0 := by
  refine wq_method (cc := kc_M_books) (maxL := 2) (ret := (some .long)) (by decide) kw_1412 (fun _ _ => rfl) wq_sp_sz ?_
  intro p e s m args below meth c cs D ad as w rt xt hF hnt hsp
  obtain ⟨h0, hr, hts, hown, hlk, hnm, hml, hK, hZ, hN, hA⟩ := hF
  have hown : s.vm.findClass "BorderDeskModel" = some m.cls := hown
  obtain ⟨A, hAe⟩ : ∃ A, A = wq_A ad w s.heap.size := ⟨_, rfl⟩
  rw [← hAe] at hZ hA ⊢
  have hb_44 : wq_Snd p l e ({ frames := 1, cells := 0, slots := 0, locals := 22 } : Room) s m args below meth c 2 cs D kz_cl A (wq_G0 ad w) (wq_Q cs D kz_cl A (wq_G0 ad w) rt xt below s 0 0) 44 (kt_M_books_44 rt xt) := by
    exact wq_lreturn_ok h0 hr hlk kd_M_books_44
  have hb_40 : wq_Snd p l e ({ frames := 1, cells := 0, slots := 0, locals := 22 } : Room) s m args below meth c 2 cs D kz_cl A (wq_G0 ad w) (wq_Q cs D kz_cl A (wq_G0 ad w) rt xt below s 0 0) 40 (kt_M_books_40 rt xt) := by
    refine wq_aload_n_ok h0 kd_M_books_40 rfl ?_
    refine wq_get_ok (wq_getOK h0 hts ki_M hown hK (ci := 9) rfl 67 (Nat.le_of_ble_eq_true rfl) kw_1049 rfl) kd_M_books_41 ?_
    exact hb_44
  have hb_29 : wq_Snd p l e ({ frames := 1, cells := 0, slots := 0, locals := 22 } : Room) s m args below meth c 2 cs D kz_cl A (wq_G0 ad w) (wq_Q cs D kz_cl A (wq_G0 ad w) rt xt below s 0 0) 29 (kt_M_books_29 rt xt) := by
    refine wq_iload_n_ok h0 kd_M_books_29 rfl ?_
    refine wq_if_ne_ok (tgt := 40) h0 kd_M_books_30 (by decide) ?_ ?_
    · exact hb_40
    refine wq_aload_n_ok h0 kd_M_books_33 rfl ?_
    refine wq_get_ok (wq_getOK h0 hts ki_M hown hK (ci := 9) rfl 66 (Nat.le_of_ble_eq_true rfl) kw_1048 rfl) kd_M_books_34 ?_
    refine wq_goto_ok (tgt := 44) h0 kd_M_books_37 (by decide) ?_
    exact hb_44
  have hb_15 : wq_Snd p l e ({ frames := 1, cells := 0, slots := 0, locals := 22 } : Room) s m args below meth c 2 cs D kz_cl A (wq_G0 ad w) (wq_Q cs D kz_cl A (wq_G0 ad w) rt xt below s 0 0) 15 (kt_M_books_15 rt xt) := by
    refine wq_put_ok (wq_putOK h0 hts ki_M ka_M kb_M kn_M hown hK (ci := 9) rfl 0 (Nat.le_of_ble_eq_true rfl) kw_982 rfl (Or.inl rfl) wq_okI) kd_M_books_15 ?_
    refine wq_aload_n_ok h0 kd_M_books_18 rfl ?_
    refine wq_get_ok (wq_getOK h0 hts ki_M hown hK (ci := 9) rfl 0 (Nat.le_of_ble_eq_true rfl) kw_982 rfl) kd_M_books_19 ?_
    refine wq_if_le_ok (tgt := 29) h0 kd_M_books_22 (by decide) ?_ ?_
    · exact hb_29
    refine wq_lconst_ok h0 kd_M_books_25 (by decide +kernel) ?_
    refine wq_goto_ok (tgt := 44) h0 kd_M_books_26 (by decide) ?_
    exact hb_44
  have hb_14 : wq_Snd p l e ({ frames := 1, cells := 0, slots := 0, locals := 22 } : Room) s m args below meth c 2 cs D kz_cl A (wq_G0 ad w) (wq_Q cs D kz_cl A (wq_G0 ad w) rt xt below s 0 0) 14 (kt_M_books_14 rt xt) := by
    refine wq_iconst_ok h0 kd_M_books_14 (by decide +kernel) ?_
    exact hb_15
  have hb_0 : wq_Snd p l e ({ frames := 1, cells := 0, slots := 0, locals := 22 } : Room) s m args below meth c 2 cs D kz_cl A (wq_G0 ad w) (wq_Q cs D kz_cl A (wq_G0 ad w) rt xt below s 0 0) 0 (kt_M_books_0 rt xt) := by
    refine wq_aload_n_ok h0 kd_M_books_0 rfl ?_
    refine wq_iload_n_ok h0 kd_M_books_1 rfl ?_
    refine wq_iconst_ok h0 kd_M_books_2 (by decide +kernel) ?_
    refine wq_iconst_ok h0 kd_M_books_3 (by decide +kernel) ?_
    refine wq_call_ok hA (wq_runS ⟨h0.1, h0.2, hml, hown, hts⟩ (kv_M_within hl) ⟨(wq_cB hts kw_G kw_1209 kw_10 kw_1207 ⟨by decide +kernel, by decide +kernel, by decide +kernel⟩ rfl rfl ⟨Nat.le_of_ble_eq_true rfl, Nat.le_of_ble_eq_true rfl⟩), hts _ kw_1208⟩ hK hZ hN hA kd_M_books_4) (wq_xout_ok hnt hlk) ?_
    refine wq_if_eq_ok (tgt := 14) h0 kd_M_books_7 (by decide) ?_ ?_
    · exact hb_14
    refine wq_iconst_ok h0 kd_M_books_10 (by decide +kernel) ?_
    refine wq_goto_ok (tgt := 15) h0 kd_M_books_11 (by decide) ?_
    exact hb_15
  exact hb_0 _ _ _ _ _ (wq_sp_t hsp)
