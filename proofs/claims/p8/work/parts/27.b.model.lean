set_option maxRecDepth 100000 in
set_option maxHeartbeats 4000000 in
theorem kv_M_quota {l : Launch} (hl : l.stackTraces = false) : wq_Vld l kz_cl ky_M_quota kw_T ({ frames := 1, cells := 0, slots := 0, locals := 22 }) wq_G0 ks_M_quota 0 0 := by
  refine wq_method (cc := kc_M_quota) (maxL := 8) (ret := (some .int)) (by decide) kw_1257 (fun _ _ => rfl) wq_sp_sz ?_
  intro p e s m args below meth c cs D ad as w rt xt hF hnt hsp
  obtain ⟨h0, hr, hts, hown, hlk, hnm, hml, hK, hZ, hN, hA⟩ := hF
  have hown : s.vm.findClass "BorderDeskModel" = some m.cls := hown
  obtain ⟨A, hAe⟩ : ∃ A, A = wq_A ad w s.heap.size := ⟨_, rfl⟩
  rw [← hAe] at hZ hA ⊢
  have hb_103 : wq_Snd p l e ({ frames := 1, cells := 0, slots := 0, locals := 22 } : Room) s m args below meth c 8 cs D kz_cl A (wq_G0 ad w) (wq_Q cs D kz_cl A (wq_G0 ad w) rt xt below s 0 0) 103 (kt_M_quota_103 rt xt) := by
    refine wq_aload_n_ok h0 kd_M_quota_103 rfl ?_
    refine wq_get_ok (wq_getOK h0 hts ki_M hown hK (ci := 9) rfl 19 (Nat.le_of_ble_eq_true rfl) kw_1001 rfl) kd_M_quota_104 ?_
    refine wq_aload_n_ok h0 kd_M_quota_107 rfl ?_
    refine wq_get_ok (wq_getOK h0 hts ki_M hown hK (ci := 9) rfl 18 (Nat.le_of_ble_eq_true rfl) kw_1000 rfl) kd_M_quota_108 ?_
    refine wq_iload_n_ok h0 kd_M_quota_111 rfl ?_
    refine wq_iast_ok h0 hK kd_M_quota_112 ?_
    refine wq_aload_n_ok h0 kd_M_quota_113 rfl ?_
    refine wq_get_ok (wq_getOK h0 hts ki_M hown hK (ci := 9) rfl 20 (Nat.le_of_ble_eq_true rfl) kw_1002 rfl) kd_M_quota_114 ?_
    refine wq_aload_n_ok h0 kd_M_quota_117 rfl ?_
    refine wq_get_ok (wq_getOK h0 hts ki_M hown hK (ci := 9) rfl 18 (Nat.le_of_ble_eq_true rfl) kw_1000 rfl) kd_M_quota_118 ?_
    refine wq_iload_n_ok h0 kd_M_quota_121 rfl ?_
    refine wq_iast_ok h0 hK kd_M_quota_122 ?_
    refine wq_aload_n_ok h0 kd_M_quota_123 rfl ?_
    refine wq_get_ok (wq_getOK h0 hts ki_M hown hK (ci := 9) rfl 21 (Nat.le_of_ble_eq_true rfl) kw_1003 rfl) kd_M_quota_124 ?_
    refine wq_aload_n_ok h0 kd_M_quota_127 rfl ?_
    refine wq_get_ok (wq_getOK h0 hts ki_M hown hK (ci := 9) rfl 18 (Nat.le_of_ble_eq_true rfl) kw_1000 rfl) kd_M_quota_128 ?_
    refine wq_iload_ok h0 kd_M_quota_131 ?_
    refine wq_iast_ok h0 hK kd_M_quota_133 ?_
    refine wq_aload_n_ok h0 kd_M_quota_134 rfl ?_
    refine wq_get_ok (wq_getOK h0 hts ki_M hown hK (ci := 9) rfl 22 (Nat.le_of_ble_eq_true rfl) kw_1004 rfl) kd_M_quota_135 ?_
    refine wq_aload_n_ok h0 kd_M_quota_138 rfl ?_
    refine wq_get_ok (wq_getOK h0 hts ki_M hown hK (ci := 9) rfl 18 (Nat.le_of_ble_eq_true rfl) kw_1000 rfl) kd_M_quota_139 ?_
    refine wq_iload_ok h0 kd_M_quota_142 ?_
    refine wq_iast_ok h0 hK kd_M_quota_144 ?_
    refine wq_aload_n_ok h0 kd_M_quota_145 rfl ?_
    refine wq_get_ok (wq_getOK h0 hts ki_M hown hK (ci := 9) rfl 23 (Nat.le_of_ble_eq_true rfl) kw_1005 rfl) kd_M_quota_146 ?_
    refine wq_aload_n_ok h0 kd_M_quota_149 rfl ?_
    refine wq_get_ok (wq_getOK h0 hts ki_M hown hK (ci := 9) rfl 18 (Nat.le_of_ble_eq_true rfl) kw_1000 rfl) kd_M_quota_150 ?_
    refine wq_iload_ok h0 kd_M_quota_153 ?_
    refine wq_iast_ok h0 hK kd_M_quota_155 ?_
    refine wq_aload_n_ok h0 kd_M_quota_156 rfl ?_
    refine wq_get_ok (wq_getOK h0 hts ki_M hown hK (ci := 9) rfl 24 (Nat.le_of_ble_eq_true rfl) kw_1006 rfl) kd_M_quota_157 ?_
    refine wq_aload_n_ok h0 kd_M_quota_160 rfl ?_
    refine wq_get_ok (wq_getOK h0 hts ki_M hown hK (ci := 9) rfl 18 (Nat.le_of_ble_eq_true rfl) kw_1000 rfl) kd_M_quota_161 ?_
    refine wq_iload_n_ok h0 kd_M_quota_164 rfl ?_
    refine wq_iast_ok h0 hK kd_M_quota_165 ?_
    refine wq_aload_n_ok h0 kd_M_quota_166 rfl ?_
    refine wq_dup_ok h0 kd_M_quota_167 ?_
    refine wq_get_ok (wq_getOK h0 hts ki_M hown hK (ci := 9) rfl 18 (Nat.le_of_ble_eq_true rfl) kw_1000 rfl) kd_M_quota_168 ?_
    refine wq_iconst_ok h0 kd_M_quota_171 (by decide +kernel) ?_
    refine wq_iadd_ok h0 kd_M_quota_172 ?_
    refine wq_put_ok (wq_putOK h0 hts ki_M ka_M kb_M kn_M hown hK (ci := 9) rfl 18 (Nat.le_of_ble_eq_true rfl) kw_1000 rfl (Or.inl rfl) wq_okI) kd_M_quota_173 ?_
    refine wq_aload_n_ok h0 kd_M_quota_176 rfl ?_
    refine wq_get_ok (wq_getOK h0 hts ki_M hown hK (ci := 9) rfl 18 (Nat.le_of_ble_eq_true rfl) kw_1000 rfl) kd_M_quota_177 ?_
    refine wq_iconst_ok h0 kd_M_quota_180 (by decide +kernel) ?_
    refine wq_isub_ok h0 kd_M_quota_181 ?_
    exact wq_ireturn_ok h0 hr hlk kd_M_quota_182
  have hb_91 : wq_Snd p l e ({ frames := 1, cells := 0, slots := 0, locals := 22 } : Room) s m args below meth c 8 cs D kz_cl A (wq_G0 ad w) (wq_Q cs D kz_cl A (wq_G0 ad w) rt xt below s 0 0) 91 (kt_M_quota_91 rt xt) := by
    refine wq_put_ok (wq_putOK h0 hts ki_M ka_M kb_M kn_M hown hK (ci := 9) rfl 0 (Nat.le_of_ble_eq_true rfl) kw_982 rfl (Or.inl rfl) wq_okI) kd_M_quota_91 ?_
    refine wq_aload_n_ok h0 kd_M_quota_94 rfl ?_
    refine wq_get_ok (wq_getOK h0 hts ki_M hown hK (ci := 9) rfl 0 (Nat.le_of_ble_eq_true rfl) kw_982 rfl) kd_M_quota_95 ?_
    refine wq_if_le_ok (tgt := 103) h0 kd_M_quota_98 (by decide) ?_ ?_
    · exact hb_103
    refine wq_iconst_ok h0 kd_M_quota_101 (by decide +kernel) ?_
    exact wq_ireturn_ok h0 hr hlk kd_M_quota_102
  have hb_73 : wq_Snd p l e ({ frames := 1, cells := 0, slots := 0, locals := 22 } : Room) s m args below meth c 8 cs D kz_cl A (wq_G0 ad w) (wq_Q cs D kz_cl A (wq_G0 ad w) rt xt below s 0 0) 73 (kt_M_quota_73 rt xt) := by
    refine wq_iconst_ok h0 kd_M_quota_73 (by decide +kernel) ?_
    refine wq_goto_ok (tgt := 91) h0 kd_M_quota_74 (by decide) ?_
    exact hb_91
  have hb_90 : wq_Snd p l e ({ frames := 1, cells := 0, slots := 0, locals := 22 } : Room) s m args below meth c 8 cs D kz_cl A (wq_G0 ad w) (wq_Q cs D kz_cl A (wq_G0 ad w) rt xt below s 0 0) 90 (kt_M_quota_90 rt xt) := by
    refine wq_iconst_ok h0 kd_M_quota_90 (by decide +kernel) ?_
    exact hb_91
  have hb_77 : wq_Snd p l e ({ frames := 1, cells := 0, slots := 0, locals := 22 } : Room) s m args below meth c 8 cs D kz_cl A (wq_G0 ad w) (wq_Q cs D kz_cl A (wq_G0 ad w) rt xt below s 0 0) 77 (kt_M_quota_77 rt xt) := by
    refine wq_aload_n_ok h0 kd_M_quota_77 rfl ?_
    refine wq_get_ok (wq_getOK h0 hts ki_M hown hK (ci := 9) rfl 18 (Nat.le_of_ble_eq_true rfl) kw_1000 rfl) kd_M_quota_78 ?_
    refine wq_bipush_ok h0 kd_M_quota_81 (by decide +kernel) ?_
    refine wq_icmp_ne_ok (tgt := 90) h0 kd_M_quota_83 (by decide) ?_ ?_
    · exact hb_90
    refine wq_iconst_ok h0 kd_M_quota_86 (by decide +kernel) ?_
    refine wq_goto_ok (tgt := 91) h0 kd_M_quota_87 (by decide) ?_
    exact hb_91
  have hb_45 : wq_Snd p l e ({ frames := 1, cells := 0, slots := 0, locals := 22 } : Room) s m args below meth c 8 cs D kz_cl A (wq_G0 ad w) (wq_Q cs D kz_cl A (wq_G0 ad w) rt xt below s 0 0) 45 (kt_M_quota_45 rt xt) := by
    refine wq_istore_ok h0 kd_M_quota_45 (Nat.le_of_ble_eq_true rfl) ?_
    refine wq_aload_n_ok h0 kd_M_quota_47 rfl ?_
    refine wq_iload_ok h0 kd_M_quota_48 ?_
    refine wq_if_eq_ok (tgt := 73) h0 kd_M_quota_50 (by decide) ?_ ?_
    · exact hb_73
    refine wq_iload_ok h0 kd_M_quota_53 ?_
    refine wq_if_lt_ok (tgt := 73) h0 kd_M_quota_55 (by decide) ?_ ?_
    · exact hb_73
    refine wq_iload_ok h0 kd_M_quota_58 ?_
    refine wq_iload_ok h0 kd_M_quota_60 ?_
    refine wq_icmp_gt_ok (tgt := 73) h0 kd_M_quota_62 (by decide) ?_ ?_
    · exact hb_73
    refine wq_iload_ok h0 kd_M_quota_65 ?_
    refine wq_sipush_ok h0 kd_M_quota_67 (by decide +kernel) ?_
    refine wq_icmp_le_ok (tgt := 77) h0 kd_M_quota_70 (by decide) ?_ ?_
    · exact hb_77
    exact hb_73
  have hb_44 : wq_Snd p l e ({ frames := 1, cells := 0, slots := 0, locals := 22 } : Room) s m args below meth c 8 cs D kz_cl A (wq_G0 ad w) (wq_Q cs D kz_cl A (wq_G0 ad w) rt xt below s 0 0) 44 (kt_M_quota_44 rt xt) := by
    refine wq_iconst_ok h0 kd_M_quota_44 (by decide +kernel) ?_
    exact hb_45
  have hb_0 : wq_Snd p l e ({ frames := 1, cells := 0, slots := 0, locals := 22 } : Room) s m args below meth c 8 cs D kz_cl A (wq_G0 ad w) (wq_Q cs D kz_cl A (wq_G0 ad w) rt xt below s 0 0) 0 (kt_M_quota_0 rt xt) := by
    refine wq_aload_n_ok h0 kd_M_quota_0 rfl ?_
    refine wq_iload_n_ok h0 kd_M_quota_1 rfl ?_
    refine wq_call_ok hA (wq_runV (ci := 9) ⟨h0.1, h0.2, hml, hown, hts⟩ (kv_M_isHeading hl) ⟨(wq_cB hts kw_G kw_1198 kw_10 kw_1195 ⟨by decide +kernel, by decide +kernel, by decide +kernel⟩ rfl rfl ⟨Nat.le_of_ble_eq_true rfl, Nat.le_of_ble_eq_true rfl⟩), hts _ kw_1197, hts _ kw_s28⟩ rfl rfl hK hZ hN hA kd_M_quota_2) (wq_xout_ok hnt hlk) ?_
    refine wq_if_eq_ok (tgt := 44) h0 kd_M_quota_5 (by decide) ?_ ?_
    · exact hb_44
    refine wq_iload_n_ok h0 kd_M_quota_8 rfl ?_
    refine wq_iconst_ok h0 kd_M_quota_9 (by decide +kernel) ?_
    refine wq_bipush_ok h0 kd_M_quota_10 (by decide +kernel) ?_
    refine wq_call_ok hA (wq_runS ⟨h0.1, h0.2, hml, hown, hts⟩ (kv_M_within hl) ⟨(wq_cB hts kw_G kw_1209 kw_10 kw_1207 ⟨by decide +kernel, by decide +kernel, by decide +kernel⟩ rfl rfl ⟨Nat.le_of_ble_eq_true rfl, Nat.le_of_ble_eq_true rfl⟩), hts _ kw_1208⟩ hK hZ hN hA kd_M_quota_12) (wq_xout_ok hnt hlk) ?_
    refine wq_if_eq_ok (tgt := 44) h0 kd_M_quota_15 (by decide) ?_ ?_
    · exact hb_44
    refine wq_iload_n_ok h0 kd_M_quota_18 rfl ?_
    refine wq_iconst_ok h0 kd_M_quota_19 (by decide +kernel) ?_
    refine wq_ldc_ok (v := 100000) h0 hown (hts _ kw_1258) kd_M_quota_20 ?_
    refine wq_call_ok hA (wq_runS ⟨h0.1, h0.2, hml, hown, hts⟩ (kv_M_within hl) ⟨(wq_cB hts kw_G kw_1209 kw_10 kw_1207 ⟨by decide +kernel, by decide +kernel, by decide +kernel⟩ rfl rfl ⟨Nat.le_of_ble_eq_true rfl, Nat.le_of_ble_eq_true rfl⟩), hts _ kw_1208⟩ hK hZ hN hA kd_M_quota_22) (wq_xout_ok hnt hlk) ?_
    refine wq_if_eq_ok (tgt := 44) h0 kd_M_quota_25 (by decide) ?_ ?_
    · exact hb_44
    refine wq_iload_ok h0 kd_M_quota_28 ?_
    refine wq_iconst_ok h0 kd_M_quota_30 (by decide +kernel) ?_
    refine wq_sipush_ok h0 kd_M_quota_31 (by decide +kernel) ?_
    refine wq_call_ok hA (wq_runS ⟨h0.1, h0.2, hml, hown, hts⟩ (kv_M_within hl) ⟨(wq_cB hts kw_G kw_1209 kw_10 kw_1207 ⟨by decide +kernel, by decide +kernel, by decide +kernel⟩ rfl rfl ⟨Nat.le_of_ble_eq_true rfl, Nat.le_of_ble_eq_true rfl⟩), hts _ kw_1208⟩ hK hZ hN hA kd_M_quota_34) (wq_xout_ok hnt hlk) ?_
    refine wq_if_eq_ok (tgt := 44) h0 kd_M_quota_37 (by decide) ?_ ?_
    · exact hb_44
    refine wq_iconst_ok h0 kd_M_quota_40 (by decide +kernel) ?_
    refine wq_goto_ok (tgt := 45) h0 kd_M_quota_41 (by decide) ?_
    exact hb_45
  exact hb_0 _ _ _ _ _ (wq_sp_t hsp)
set_option maxRecDepth 100000 in
set_option maxHeartbeats 4000000 in
theorem kv_M_quotaOf {l : Launch} (hl : l.stackTraces = false) : wq_Vld l kz_cl ky_M_quotaOf kw_T ({ frames := 1, cells := 0, slots := 0, locals := 23 }) wq_G0 ks_M_quotaOf 0 0 := by
  refine wq_method (cc := kc_M_quotaOf) (maxL := 6) (ret := (some .int)) (by decide) kw_1334 (fun _ _ => rfl) wq_sp_sz ?_
  intro p e s m args below meth c cs D ad as w rt xt hF hnt hsp
  obtain ⟨h0, hr, hts, hown, hlk, hnm, hml, hK, hZ, hN, hA⟩ := hF
  have hown : s.vm.findClass "BorderDeskModel" = some m.cls := hown
  obtain ⟨A, hAe⟩ : ∃ A, A = wq_A ad w s.heap.size := ⟨_, rfl⟩
  rw [← hAe] at hZ hA ⊢
  have hall : ∀ K : Nat → wq_T, (∀ pc, pc ∈ [11] → wq_Snd p l e ({ frames := 1, cells := 0, slots := 0, locals := 23 } : Room) s m args below meth c 6 cs D kz_cl A (wq_G0 ad w) (wq_Q cs D kz_cl A (wq_G0 ad w) rt xt below s 0 0) pc (K pc)) → (∀ pc, pc ∈ [11] → wq_Snd p l e ({ frames := 1, cells := 0, slots := 0, locals := 23 } : Room) s m args below meth c 6 cs D kz_cl A (wq_G0 ad w) (wq_Q cs D kz_cl A (wq_G0 ad w) rt xt below s 0 0) pc (cond (Nat.beq pc 11) (kh_M_quotaOf_11 rt xt K) (fun _ _ _ _ _ => False))) ∧ wq_Snd p l e ({ frames := 1, cells := 0, slots := 0, locals := 23 } : Room) s m args below meth c 6 cs D kz_cl A (wq_G0 ad w) (wq_Q cs D kz_cl A (wq_G0 ad w) rt xt below s 0 0) 0 (kt_M_quotaOf_0 rt xt K) := by
    intro K hKc
    have hb_79 : wq_Snd p l e ({ frames := 1, cells := 0, slots := 0, locals := 23 } : Room) s m args below meth c 6 cs D kz_cl A (wq_G0 ad w) (wq_Q cs D kz_cl A (wq_G0 ad w) rt xt below s 0 0) 79 (kt_M_quotaOf_79 rt xt K) := by
      refine wq_iload_ok h0 kd_M_quotaOf_79 ?_
      exact wq_ireturn_ok h0 hr hlk kd_M_quotaOf_81
    have hb_71 : wq_Snd p l e ({ frames := 1, cells := 0, slots := 0, locals := 23 } : Room) s m args below meth c 6 cs D kz_cl A (wq_G0 ad w) (wq_Q cs D kz_cl A (wq_G0 ad w) rt xt below s 0 0) 71 (kt_M_quotaOf_71 rt xt K) := by
      refine wq_istore_ok h0 kd_M_quotaOf_71 (Nat.le_of_ble_eq_true rfl) ?_
      refine wq_iinc_ok h0 kd_M_quotaOf_73 (by decide +kernel) (Nat.le_of_ble_eq_true rfl) ?_
      refine wq_goto_ok (tgt := 11) h0 kd_M_quotaOf_76 (by decide) ?_
      exact wq_can_ok (hKc 11 (by decide))
    have hb_69 : wq_Snd p l e ({ frames := 1, cells := 0, slots := 0, locals := 23 } : Room) s m args below meth c 6 cs D kz_cl A (wq_G0 ad w) (wq_Q cs D kz_cl A (wq_G0 ad w) rt xt below s 0 0) 69 (kt_M_quotaOf_69 rt xt K) := by
      refine wq_iload_ok h0 kd_M_quotaOf_69 ?_
      exact hb_71
    have hb_11 : wq_Snd p l e ({ frames := 1, cells := 0, slots := 0, locals := 23 } : Room) s m args below meth c 6 cs D kz_cl A (wq_G0 ad w) (wq_Q cs D kz_cl A (wq_G0 ad w) rt xt below s 0 0) 11 (kh_M_quotaOf_11 rt xt K) := by
      refine wq_iload_ok h0 kd_M_quotaOf_11 ?_
      refine wq_if_lt_ok (tgt := 79) h0 kd_M_quotaOf_13 (by decide) ?_ ?_
      · exact hb_79
      refine wq_aload_n_ok h0 kd_M_quotaOf_16 rfl ?_
      refine wq_iload_n_ok h0 kd_M_quotaOf_17 rfl ?_
      refine wq_aload_n_ok h0 kd_M_quotaOf_18 rfl ?_
      refine wq_get_ok (wq_getOK h0 hts ki_M hown hK (ci := 9) rfl 19 (Nat.le_of_ble_eq_true rfl) kw_1001 rfl) kd_M_quotaOf_19 ?_
      refine wq_iload_ok h0 kd_M_quotaOf_22 ?_
      refine wq_iald_ok h0 hK kd_M_quotaOf_24 ?_
      refine wq_call_ok hA (wq_runV (ci := 9) ⟨h0.1, h0.2, hml, hown, hts⟩ (kv_M_isUnder hl) ⟨(wq_cB hts kw_G kw_1229 kw_10 kw_1226 ⟨by decide +kernel, by decide +kernel, by decide +kernel⟩ rfl rfl ⟨Nat.le_of_ble_eq_true rfl, Nat.le_of_ble_eq_true rfl⟩), hts _ kw_1228, hts _ kw_s32⟩ rfl rfl hK hZ hN hA kd_M_quotaOf_25) (wq_xout_ok hnt hlk) ?_
      refine wq_if_eq_ok (tgt := 69) h0 kd_M_quotaOf_28 (by decide) ?_ ?_
      · exact hb_69
      refine wq_aload_n_ok h0 kd_M_quotaOf_31 rfl ?_
      refine wq_get_ok (wq_getOK h0 hts ki_M hown hK (ci := 9) rfl 20 (Nat.le_of_ble_eq_true rfl) kw_1002 rfl) kd_M_quotaOf_32 ?_
      refine wq_iload_ok h0 kd_M_quotaOf_35 ?_
      refine wq_iald_ok h0 hK kd_M_quotaOf_37 ?_
      refine wq_iload_n_ok h0 kd_M_quotaOf_38 rfl ?_
      refine wq_icmp_ne_ok (tgt := 69) h0 kd_M_quotaOf_39 (by decide) ?_ ?_
      · exact hb_69
      refine wq_iload_n_ok h0 kd_M_quotaOf_42 rfl ?_
      refine wq_aload_n_ok h0 kd_M_quotaOf_43 rfl ?_
      refine wq_get_ok (wq_getOK h0 hts ki_M hown hK (ci := 9) rfl 22 (Nat.le_of_ble_eq_true rfl) kw_1004 rfl) kd_M_quotaOf_44 ?_
      refine wq_iload_ok h0 kd_M_quotaOf_47 ?_
      refine wq_iald_ok h0 hK kd_M_quotaOf_49 ?_
      refine wq_icmp_lt_ok (tgt := 69) h0 kd_M_quotaOf_50 (by decide) ?_ ?_
      · exact hb_69
      refine wq_iload_n_ok h0 kd_M_quotaOf_53 rfl ?_
      refine wq_aload_n_ok h0 kd_M_quotaOf_54 rfl ?_
      refine wq_get_ok (wq_getOK h0 hts ki_M hown hK (ci := 9) rfl 23 (Nat.le_of_ble_eq_true rfl) kw_1005 rfl) kd_M_quotaOf_55 ?_
      refine wq_iload_ok h0 kd_M_quotaOf_58 ?_
      refine wq_iald_ok h0 hK kd_M_quotaOf_60 ?_
      refine wq_icmp_gt_ok (tgt := 69) h0 kd_M_quotaOf_61 (by decide) ?_ ?_
      · exact hb_69
      refine wq_iload_ok h0 kd_M_quotaOf_64 ?_
      refine wq_goto_ok (tgt := 71) h0 kd_M_quotaOf_66 (by decide) ?_
      exact hb_71
    have hb_0 : wq_Snd p l e ({ frames := 1, cells := 0, slots := 0, locals := 23 } : Room) s m args below meth c 6 cs D kz_cl A (wq_G0 ad w) (wq_Q cs D kz_cl A (wq_G0 ad w) rt xt below s 0 0) 0 (kt_M_quotaOf_0 rt xt K) := by
      refine wq_iconst_ok h0 kd_M_quotaOf_0 (by decide +kernel) ?_
      refine wq_istore_ok h0 kd_M_quotaOf_1 (Nat.le_of_ble_eq_true rfl) ?_
      refine wq_aload_n_ok h0 kd_M_quotaOf_3 rfl ?_
      refine wq_get_ok (wq_getOK h0 hts ki_M hown hK (ci := 9) rfl 18 (Nat.le_of_ble_eq_true rfl) kw_1000 rfl) kd_M_quotaOf_4 ?_
      refine wq_iconst_ok h0 kd_M_quotaOf_7 (by decide +kernel) ?_
      refine wq_isub_ok h0 kd_M_quotaOf_8 ?_
      refine wq_istore_ok h0 kd_M_quotaOf_9 (Nat.le_of_ble_eq_true rfl) ?_
      exact wq_can_ok (hKc 11 (by decide))
    refine ⟨?_, hb_0⟩
    exact List.forall_mem_cons.mpr ⟨hb_11, fun _ h => absurd h List.not_mem_nil⟩
  have hun : ∀ (n pc : Nat), pc ∈ [11] → wq_Snd p l e ({ frames := 1, cells := 0, slots := 0, locals := 23 } : Room) s m args below meth c 6 cs D kz_cl A (wq_G0 ad w) (wq_Q cs D kz_cl A (wq_G0 ad w) rt xt below s 0 0) pc (ku_M_quotaOf rt xt n pc) := by
    intro n
    induction n with
    | zero => intro pc _ L S w9 n1 n2 h; exact h.elim
    | succ n ih => intro pc hpc; exact (hall (ku_M_quotaOf rt xt n) ih).1 pc hpc
  exact (hall (ku_M_quotaOf rt xt 1000000000000) (hun 1000000000000)).2 _ _ _ _ _ (wq_sp_t hsp)
set_option maxRecDepth 100000 in
set_option maxHeartbeats 4000000 in
theorem kv_M_quotaLeft {l : Launch} (hl : l.stackTraces = false) : wq_Vld l kz_cl ky_M_quotaLeft kw_T ({ frames := 0, cells := 0, slots := 0, locals := 0 }) wq_G0 ks_M_quotaLeft 0 0 := by
  refine wq_method (cc := kc_M_quotaLeft) (maxL := 2) (ret := (some .int)) (by decide) kw_1262 (fun _ _ => rfl) wq_sp_sz ?_
  intro p e s m args below meth c cs D ad as w rt xt hF hnt hsp
  obtain ⟨h0, hr, hts, hown, hlk, hnm, hml, hK, hZ, hN, hA⟩ := hF
  have hown : s.vm.findClass "BorderDeskModel" = some m.cls := hown
  obtain ⟨A, hAe⟩ : ∃ A, A = wq_A ad w s.heap.size := ⟨_, rfl⟩
  rw [← hAe] at hZ hA ⊢
  have hb_38 : wq_Snd p l e ({ frames := 0, cells := 0, slots := 0, locals := 0 } : Room) s m args below meth c 2 cs D kz_cl A (wq_G0 ad w) (wq_Q cs D kz_cl A (wq_G0 ad w) rt xt below s 0 0) 38 (kt_M_quotaLeft_38 rt xt) := by
    exact wq_ireturn_ok h0 hr hlk kd_M_quotaLeft_38
  have hb_32 : wq_Snd p l e ({ frames := 0, cells := 0, slots := 0, locals := 0 } : Room) s m args below meth c 2 cs D kz_cl A (wq_G0 ad w) (wq_Q cs D kz_cl A (wq_G0 ad w) rt xt below s 0 0) 32 (kt_M_quotaLeft_32 rt xt) := by
    refine wq_aload_n_ok h0 kd_M_quotaLeft_32 rfl ?_
    refine wq_get_ok (wq_getOK h0 hts ki_M hown hK (ci := 9) rfl 24 (Nat.le_of_ble_eq_true rfl) kw_1006 rfl) kd_M_quotaLeft_33 ?_
    refine wq_iload_n_ok h0 kd_M_quotaLeft_36 rfl ?_
    refine wq_iald_ok h0 hK kd_M_quotaLeft_37 ?_
    exact hb_38
  have hb_18 : wq_Snd p l e ({ frames := 0, cells := 0, slots := 0, locals := 0 } : Room) s m args below meth c 2 cs D kz_cl A (wq_G0 ad w) (wq_Q cs D kz_cl A (wq_G0 ad w) rt xt below s 0 0) 18 (kt_M_quotaLeft_18 rt xt) := by
    refine wq_put_ok (wq_putOK h0 hts ki_M ka_M kb_M kn_M hown hK (ci := 9) rfl 0 (Nat.le_of_ble_eq_true rfl) kw_982 rfl (Or.inl rfl) wq_okI) kd_M_quotaLeft_18 ?_
    refine wq_aload_n_ok h0 kd_M_quotaLeft_21 rfl ?_
    refine wq_get_ok (wq_getOK h0 hts ki_M hown hK (ci := 9) rfl 0 (Nat.le_of_ble_eq_true rfl) kw_982 rfl) kd_M_quotaLeft_22 ?_
    refine wq_if_le_ok (tgt := 32) h0 kd_M_quotaLeft_25 (by decide) ?_ ?_
    · exact hb_32
    refine wq_iconst_ok h0 kd_M_quotaLeft_28 (by decide +kernel) ?_
    refine wq_goto_ok (tgt := 38) h0 kd_M_quotaLeft_29 (by decide) ?_
    exact hb_38
  have hb_17 : wq_Snd p l e ({ frames := 0, cells := 0, slots := 0, locals := 0 } : Room) s m args below meth c 2 cs D kz_cl A (wq_G0 ad w) (wq_Q cs D kz_cl A (wq_G0 ad w) rt xt below s 0 0) 17 (kt_M_quotaLeft_17 rt xt) := by
    refine wq_iconst_ok h0 kd_M_quotaLeft_17 (by decide +kernel) ?_
    exact hb_18
  have hb_0 : wq_Snd p l e ({ frames := 0, cells := 0, slots := 0, locals := 0 } : Room) s m args below meth c 2 cs D kz_cl A (wq_G0 ad w) (wq_Q cs D kz_cl A (wq_G0 ad w) rt xt below s 0 0) 0 (kt_M_quotaLeft_0 rt xt) := by
    refine wq_aload_n_ok h0 kd_M_quotaLeft_0 rfl ?_
    refine wq_iload_n_ok h0 kd_M_quotaLeft_1 rfl ?_
    refine wq_if_lt_ok (tgt := 17) h0 kd_M_quotaLeft_2 (by decide) ?_ ?_
    · exact hb_17
    refine wq_iload_n_ok h0 kd_M_quotaLeft_5 rfl ?_
    refine wq_aload_n_ok h0 kd_M_quotaLeft_6 rfl ?_
    refine wq_get_ok (wq_getOK h0 hts ki_M hown hK (ci := 9) rfl 18 (Nat.le_of_ble_eq_true rfl) kw_1000 rfl) kd_M_quotaLeft_7 ?_
    refine wq_icmp_ge_ok (tgt := 17) h0 kd_M_quotaLeft_10 (by decide) ?_ ?_
    · exact hb_17
    refine wq_iconst_ok h0 kd_M_quotaLeft_13 (by decide +kernel) ?_
    refine wq_goto_ok (tgt := 18) h0 kd_M_quotaLeft_14 (by decide) ?_
    exact hb_18
  exact hb_0 _ _ _ _ _ (wq_sp_t hsp)
set_option maxRecDepth 100000 in
set_option maxHeartbeats 4000000 in
theorem kv_M_reaches {l : Launch} (hl : l.stackTraces = false) : wq_Vld l kz_cl ky_M_reaches kw_T ({ frames := 0, cells := 0, slots := 0, locals := 0 }) wq_G0 ks_M_reaches 0 0 := by
  refine wq_method (cc := kc_M_reaches) (maxL := 6) (ret := (some .boolean)) (by decide) kw_1271 (fun _ _ => rfl) wq_sp_sz ?_
  intro p e s m args below meth c cs D ad as w rt xt hF hnt hsp
  obtain ⟨h0, hr, hts, hown, hlk, hnm, hml, hK, hZ, hN, hA⟩ := hF
  have hown : s.vm.findClass "BorderDeskModel" = some m.cls := hown
  obtain ⟨A, hAe⟩ : ∃ A, A = wq_A ad w s.heap.size := ⟨_, rfl⟩
  rw [← hAe] at hZ hA ⊢
  have hall : ∀ K : Nat → wq_T, (∀ pc, pc ∈ [2, 32, 41, 51] → wq_Snd p l e ({ frames := 0, cells := 0, slots := 0, locals := 0 } : Room) s m args below meth c 6 cs D kz_cl A (wq_G0 ad w) (wq_Q cs D kz_cl A (wq_G0 ad w) rt xt below s 0 0) pc (K pc)) → (∀ pc, pc ∈ [2, 32, 41, 51] → wq_Snd p l e ({ frames := 0, cells := 0, slots := 0, locals := 0 } : Room) s m args below meth c 6 cs D kz_cl A (wq_G0 ad w) (wq_Q cs D kz_cl A (wq_G0 ad w) rt xt below s 0 0) pc (cond (Nat.beq pc 2) (kh_M_reaches_2 rt xt K) (cond (Nat.beq pc 32) (kh_M_reaches_32 rt xt K) (cond (Nat.beq pc 41) (kh_M_reaches_41 rt xt K) (cond (Nat.beq pc 51) (kh_M_reaches_51 rt xt K) (fun _ _ _ _ _ => False)))))) ∧ wq_Snd p l e ({ frames := 0, cells := 0, slots := 0, locals := 0 } : Room) s m args below meth c 6 cs D kz_cl A (wq_G0 ad w) (wq_Q cs D kz_cl A (wq_G0 ad w) rt xt below s 0 0) 0 (kt_M_reaches_0 rt xt K) := by
    intro K hKc
    have hb_30 : wq_Snd p l e ({ frames := 0, cells := 0, slots := 0, locals := 0 } : Room) s m args below meth c 6 cs D kz_cl A (wq_G0 ad w) (wq_Q cs D kz_cl A (wq_G0 ad w) rt xt below s 0 0) 30 (kt_M_reaches_30 rt xt K) := by
      refine wq_iconst_ok h0 kd_M_reaches_30 (by decide +kernel) ?_
      refine wq_istore_n_ok h0 kd_M_reaches_31 rfl (Nat.le_of_ble_eq_true rfl) ?_
      exact wq_can_ok (hKc 32 (by decide))
    have hb_23 : wq_Snd p l e ({ frames := 0, cells := 0, slots := 0, locals := 0 } : Room) s m args below meth c 6 cs D kz_cl A (wq_G0 ad w) (wq_Q cs D kz_cl A (wq_G0 ad w) rt xt below s 0 0) 23 (kt_M_reaches_23 rt xt K) := by
      refine wq_zast_ok h0 hK kd_M_reaches_23 ?_
      refine wq_iinc_ok h0 kd_M_reaches_24 (by decide +kernel) (Nat.le_of_ble_eq_true rfl) ?_
      refine wq_goto_ok (tgt := 2) h0 kd_M_reaches_27 (by decide) ?_
      exact wq_can_ok (hKc 2 (by decide))
    have hb_22 : wq_Snd p l e ({ frames := 0, cells := 0, slots := 0, locals := 0 } : Room) s m args below meth c 6 cs D kz_cl A (wq_G0 ad w) (wq_Q cs D kz_cl A (wq_G0 ad w) rt xt below s 0 0) 22 (kt_M_reaches_22 rt xt K) := by
      refine wq_iconst_ok h0 kd_M_reaches_22 (by decide +kernel) ?_
      exact hb_23
    have hb_2 : wq_Snd p l e ({ frames := 0, cells := 0, slots := 0, locals := 0 } : Room) s m args below meth c 6 cs D kz_cl A (wq_G0 ad w) (wq_Q cs D kz_cl A (wq_G0 ad w) rt xt below s 0 0) 2 (kh_M_reaches_2 rt xt K) := by
      refine wq_iload_n_ok h0 kd_M_reaches_2 rfl ?_
      refine wq_bipush_ok h0 kd_M_reaches_3 (by decide +kernel) ?_
      refine wq_icmp_ge_ok (tgt := 30) h0 kd_M_reaches_5 (by decide) ?_ ?_
      · exact hb_30
      refine wq_aload_n_ok h0 kd_M_reaches_8 rfl ?_
      refine wq_get_ok (wq_getOK h0 hts ki_M hown hK (ci := 9) rfl 33 (Nat.le_of_ble_eq_true rfl) kw_1015 rfl) kd_M_reaches_9 ?_
      refine wq_iload_n_ok h0 kd_M_reaches_12 rfl ?_
      refine wq_iload_n_ok h0 kd_M_reaches_13 rfl ?_
      refine wq_iload_n_ok h0 kd_M_reaches_14 rfl ?_
      refine wq_icmp_ne_ok (tgt := 22) h0 kd_M_reaches_15 (by decide) ?_ ?_
      · exact hb_22
      refine wq_iconst_ok h0 kd_M_reaches_18 (by decide +kernel) ?_
      refine wq_goto_ok (tgt := 23) h0 kd_M_reaches_19 (by decide) ?_
      exact hb_23
    have hb_109 : wq_Snd p l e ({ frames := 0, cells := 0, slots := 0, locals := 0 } : Room) s m args below meth c 6 cs D kz_cl A (wq_G0 ad w) (wq_Q cs D kz_cl A (wq_G0 ad w) rt xt below s 0 0) 109 (kt_M_reaches_109 rt xt K) := by
      refine wq_aload_n_ok h0 kd_M_reaches_109 rfl ?_
      refine wq_get_ok (wq_getOK h0 hts ki_M hown hK (ci := 9) rfl 33 (Nat.le_of_ble_eq_true rfl) kw_1015 rfl) kd_M_reaches_110 ?_
      refine wq_iload_n_ok h0 kd_M_reaches_113 rfl ?_
      refine wq_zald_ok h0 hK kd_M_reaches_114 ?_
      exact wq_zreturn_ok h0 hr hlk kd_M_reaches_115
    have hb_32 : wq_Snd p l e ({ frames := 0, cells := 0, slots := 0, locals := 0 } : Room) s m args below meth c 6 cs D kz_cl A (wq_G0 ad w) (wq_Q cs D kz_cl A (wq_G0 ad w) rt xt below s 0 0) 32 (kh_M_reaches_32 rt xt K) := by
      refine wq_iload_n_ok h0 kd_M_reaches_32 rfl ?_
      refine wq_bipush_ok h0 kd_M_reaches_33 (by decide +kernel) ?_
      refine wq_icmp_ge_ok (tgt := 109) h0 kd_M_reaches_35 (by decide) ?_ ?_
      · exact hb_109
      refine wq_iconst_ok h0 kd_M_reaches_38 (by decide +kernel) ?_
      refine wq_istore_ok h0 kd_M_reaches_39 (Nat.le_of_ble_eq_true rfl) ?_
      exact wq_can_ok (hKc 41 (by decide))
    have hb_103 : wq_Snd p l e ({ frames := 0, cells := 0, slots := 0, locals := 0 } : Room) s m args below meth c 6 cs D kz_cl A (wq_G0 ad w) (wq_Q cs D kz_cl A (wq_G0 ad w) rt xt below s 0 0) 103 (kt_M_reaches_103 rt xt K) := by
      refine wq_iinc_ok h0 kd_M_reaches_103 (by decide +kernel) (Nat.le_of_ble_eq_true rfl) ?_
      refine wq_goto_ok (tgt := 32) h0 kd_M_reaches_106 (by decide) ?_
      exact wq_can_ok (hKc 32 (by decide))
    have hb_41 : wq_Snd p l e ({ frames := 0, cells := 0, slots := 0, locals := 0 } : Room) s m args below meth c 6 cs D kz_cl A (wq_G0 ad w) (wq_Q cs D kz_cl A (wq_G0 ad w) rt xt below s 0 0) 41 (kh_M_reaches_41 rt xt K) := by
      refine wq_iload_ok h0 kd_M_reaches_41 ?_
      refine wq_bipush_ok h0 kd_M_reaches_43 (by decide +kernel) ?_
      refine wq_icmp_ge_ok (tgt := 103) h0 kd_M_reaches_45 (by decide) ?_ ?_
      · exact hb_103
      refine wq_iconst_ok h0 kd_M_reaches_48 (by decide +kernel) ?_
      refine wq_istore_ok h0 kd_M_reaches_49 (Nat.le_of_ble_eq_true rfl) ?_
      exact wq_can_ok (hKc 51 (by decide))
    have hb_97 : wq_Snd p l e ({ frames := 0, cells := 0, slots := 0, locals := 0 } : Room) s m args below meth c 6 cs D kz_cl A (wq_G0 ad w) (wq_Q cs D kz_cl A (wq_G0 ad w) rt xt below s 0 0) 97 (kt_M_reaches_97 rt xt K) := by
      refine wq_iinc_ok h0 kd_M_reaches_97 (by decide +kernel) (Nat.le_of_ble_eq_true rfl) ?_
      refine wq_goto_ok (tgt := 41) h0 kd_M_reaches_100 (by decide) ?_
      exact wq_can_ok (hKc 41 (by decide))
    have hb_51 : wq_Snd p l e ({ frames := 0, cells := 0, slots := 0, locals := 0 } : Room) s m args below meth c 6 cs D kz_cl A (wq_G0 ad w) (wq_Q cs D kz_cl A (wq_G0 ad w) rt xt below s 0 0) 51 (kh_M_reaches_51 rt xt K) := by
      refine wq_iload_ok h0 kd_M_reaches_51 ?_
      refine wq_aload_n_ok h0 kd_M_reaches_53 rfl ?_
      refine wq_get_ok (wq_getOK h0 hts ki_M hown hK (ci := 9) rfl 27 (Nat.le_of_ble_eq_true rfl) kw_1009 rfl) kd_M_reaches_54 ?_
      refine wq_iload_ok h0 kd_M_reaches_57 ?_
      refine wq_iald_ok h0 hK kd_M_reaches_59 ?_
      refine wq_icmp_ge_ok (tgt := 97) h0 kd_M_reaches_60 (by decide) ?_ ?_
      · exact hb_97
      refine wq_aload_n_ok h0 kd_M_reaches_63 rfl ?_
      refine wq_get_ok (wq_getOK h0 hts ki_M hown hK (ci := 9) rfl 33 (Nat.le_of_ble_eq_true rfl) kw_1015 rfl) kd_M_reaches_64 ?_
      refine wq_iload_ok h0 kd_M_reaches_67 ?_
      refine wq_zald_ok h0 hK kd_M_reaches_69 ?_
      refine wq_if_eq_ok (tgt := 97) h0 kd_M_reaches_70 (by decide) ?_ ?_
      · exact hb_97
      refine wq_aload_n_ok h0 kd_M_reaches_73 rfl ?_
      refine wq_get_ok (wq_getOK h0 hts ki_M hown hK (ci := 9) rfl 33 (Nat.le_of_ble_eq_true rfl) kw_1015 rfl) kd_M_reaches_74 ?_
      refine wq_aload_n_ok h0 kd_M_reaches_77 rfl ?_
      refine wq_get_ok (wq_getOK h0 hts ki_M hown hK (ci := 9) rfl 28 (Nat.le_of_ble_eq_true rfl) kw_1010 rfl) kd_M_reaches_78 ?_
      refine wq_iconst_ok h0 kd_M_reaches_81 (by decide +kernel) ?_
      refine wq_iload_ok h0 kd_M_reaches_82 ?_
      refine wq_imul_ok h0 kd_M_reaches_84 ?_
      refine wq_iload_ok h0 kd_M_reaches_85 ?_
      refine wq_iadd_ok h0 kd_M_reaches_87 ?_
      refine wq_iald_ok h0 hK kd_M_reaches_88 ?_
      refine wq_iconst_ok h0 kd_M_reaches_89 (by decide +kernel) ?_
      refine wq_zast_ok h0 hK kd_M_reaches_90 ?_
      refine wq_iinc_ok h0 kd_M_reaches_91 (by decide +kernel) (Nat.le_of_ble_eq_true rfl) ?_
      refine wq_goto_ok (tgt := 51) h0 kd_M_reaches_94 (by decide) ?_
      exact wq_can_ok (hKc 51 (by decide))
    have hb_0 : wq_Snd p l e ({ frames := 0, cells := 0, slots := 0, locals := 0 } : Room) s m args below meth c 6 cs D kz_cl A (wq_G0 ad w) (wq_Q cs D kz_cl A (wq_G0 ad w) rt xt below s 0 0) 0 (kt_M_reaches_0 rt xt K) := by
      refine wq_iconst_ok h0 kd_M_reaches_0 (by decide +kernel) ?_
      refine wq_istore_n_ok h0 kd_M_reaches_1 rfl (Nat.le_of_ble_eq_true rfl) ?_
      exact wq_can_ok (hKc 2 (by decide))
    refine ⟨?_, hb_0⟩
    exact List.forall_mem_cons.mpr ⟨hb_2, List.forall_mem_cons.mpr ⟨hb_32, List.forall_mem_cons.mpr ⟨hb_41, List.forall_mem_cons.mpr ⟨hb_51, fun _ h => absurd h List.not_mem_nil⟩⟩⟩⟩
  have hun : ∀ (n pc : Nat), pc ∈ [2, 32, 41, 51] → wq_Snd p l e ({ frames := 0, cells := 0, slots := 0, locals := 0 } : Room) s m args below meth c 6 cs D kz_cl A (wq_G0 ad w) (wq_Q cs D kz_cl A (wq_G0 ad w) rt xt below s 0 0) pc (ku_M_reaches rt xt n pc) := by
    intro n
    induction n with
    | zero => intro pc _ L S w9 n1 n2 h; exact h.elim
    | succ n ih => intro pc hpc; exact (hall (ku_M_reaches rt xt n) ih).1 pc hpc
  exact (hall (ku_M_reaches rt xt 1000000000000) (hun 1000000000000)).2 _ _ _ _ _ (wq_sp_t hsp)
set_option maxRecDepth 100000 in
set_option maxHeartbeats 4000000 in
theorem kv_M_part {l : Launch} (hl : l.stackTraces = false) : wq_Vld l kz_cl ky_M_part kw_T ({ frames := 1, cells := 0, slots := 0, locals := 25 }) wq_G0 ks_M_part 0 0 := by
  refine wq_method (cc := kc_M_part) (maxL := 7) (ret := (some .int)) (by decide) kw_1266 (fun _ _ => rfl) wq_sp_sz ?_
  intro p e s m args below meth c cs D ad as w rt xt hF hnt hsp
  obtain ⟨h0, hr, hts, hown, hlk, hnm, hml, hK, hZ, hN, hA⟩ := hF
  have hown : s.vm.findClass "BorderDeskModel" = some m.cls := hown
  obtain ⟨A, hAe⟩ : ∃ A, A = wq_A ad w s.heap.size := ⟨_, rfl⟩
  rw [← hAe] at hZ hA ⊢
  have hb_94 : wq_Snd p l e ({ frames := 1, cells := 0, slots := 0, locals := 25 } : Room) s m args below meth c 7 cs D kz_cl A (wq_G0 ad w) (wq_Q cs D kz_cl A (wq_G0 ad w) rt xt below s 0 0) 94 (kt_M_part_94 rt xt) := by
    refine wq_iconst_ok h0 kd_M_part_94 (by decide +kernel) ?_
    refine wq_iload_n_ok h0 kd_M_part_95 rfl ?_
    refine wq_imul_ok h0 kd_M_part_96 ?_
    refine wq_aload_n_ok h0 kd_M_part_97 rfl ?_
    refine wq_get_ok (wq_getOK h0 hts ki_M hown hK (ci := 9) rfl 27 (Nat.le_of_ble_eq_true rfl) kw_1009 rfl) kd_M_part_98 ?_
    refine wq_iload_n_ok h0 kd_M_part_101 rfl ?_
    refine wq_iald_ok h0 hK kd_M_part_102 ?_
    refine wq_iadd_ok h0 kd_M_part_103 ?_
    refine wq_istore_ok h0 kd_M_part_104 (Nat.le_of_ble_eq_true rfl) ?_
    refine wq_aload_n_ok h0 kd_M_part_106 rfl ?_
    refine wq_get_ok (wq_getOK h0 hts ki_M hown hK (ci := 9) rfl 28 (Nat.le_of_ble_eq_true rfl) kw_1010 rfl) kd_M_part_107 ?_
    refine wq_iload_ok h0 kd_M_part_110 ?_
    refine wq_iload_n_ok h0 kd_M_part_112 rfl ?_
    refine wq_iast_ok h0 hK kd_M_part_113 ?_
    refine wq_aload_n_ok h0 kd_M_part_114 rfl ?_
    refine wq_get_ok (wq_getOK h0 hts ki_M hown hK (ci := 9) rfl 29 (Nat.le_of_ble_eq_true rfl) kw_1011 rfl) kd_M_part_115 ?_
    refine wq_iload_ok h0 kd_M_part_118 ?_
    refine wq_iload_n_ok h0 kd_M_part_120 rfl ?_
    refine wq_iast_ok h0 hK kd_M_part_121 ?_
    refine wq_aload_n_ok h0 kd_M_part_122 rfl ?_
    refine wq_get_ok (wq_getOK h0 hts ki_M hown hK (ci := 9) rfl 30 (Nat.le_of_ble_eq_true rfl) kw_1012 rfl) kd_M_part_123 ?_
    refine wq_iload_ok h0 kd_M_part_126 ?_
    refine wq_iload_ok h0 kd_M_part_128 ?_
    refine wq_iast_ok h0 hK kd_M_part_130 ?_
    refine wq_aload_n_ok h0 kd_M_part_131 rfl ?_
    refine wq_get_ok (wq_getOK h0 hts ki_M hown hK (ci := 9) rfl 27 (Nat.le_of_ble_eq_true rfl) kw_1009 rfl) kd_M_part_132 ?_
    refine wq_iload_n_ok h0 kd_M_part_135 rfl ?_
    refine wq_dup2_ok h0 kd_M_part_136 ?_
    refine wq_iald_ok h0 hK kd_M_part_137 ?_
    refine wq_iconst_ok h0 kd_M_part_138 (by decide +kernel) ?_
    refine wq_iadd_ok h0 kd_M_part_139 ?_
    refine wq_iast_ok h0 hK kd_M_part_140 ?_
    refine wq_aload_n_ok h0 kd_M_part_141 rfl ?_
    refine wq_get_ok (wq_getOK h0 hts ki_M hown hK (ci := 9) rfl 27 (Nat.le_of_ble_eq_true rfl) kw_1009 rfl) kd_M_part_142 ?_
    refine wq_iload_n_ok h0 kd_M_part_145 rfl ?_
    refine wq_iald_ok h0 hK kd_M_part_146 ?_
    exact wq_ireturn_ok h0 hr hlk kd_M_part_147
  have hb_82 : wq_Snd p l e ({ frames := 1, cells := 0, slots := 0, locals := 25 } : Room) s m args below meth c 7 cs D kz_cl A (wq_G0 ad w) (wq_Q cs D kz_cl A (wq_G0 ad w) rt xt below s 0 0) 82 (kt_M_part_82 rt xt) := by
    refine wq_put_ok (wq_putOK h0 hts ki_M ka_M kb_M kn_M hown hK (ci := 9) rfl 0 (Nat.le_of_ble_eq_true rfl) kw_982 rfl (Or.inl rfl) wq_okI) kd_M_part_82 ?_
    refine wq_aload_n_ok h0 kd_M_part_85 rfl ?_
    refine wq_get_ok (wq_getOK h0 hts ki_M hown hK (ci := 9) rfl 0 (Nat.le_of_ble_eq_true rfl) kw_982 rfl) kd_M_part_86 ?_
    refine wq_if_le_ok (tgt := 94) h0 kd_M_part_89 (by decide) ?_ ?_
    · exact hb_94
    refine wq_iconst_ok h0 kd_M_part_92 (by decide +kernel) ?_
    exact wq_ireturn_ok h0 hr hlk kd_M_part_93
  have hb_63 : wq_Snd p l e ({ frames := 1, cells := 0, slots := 0, locals := 25 } : Room) s m args below meth c 7 cs D kz_cl A (wq_G0 ad w) (wq_Q cs D kz_cl A (wq_G0 ad w) rt xt below s 0 0) 63 (kt_M_part_63 rt xt) := by
    refine wq_iconst_ok h0 kd_M_part_63 (by decide +kernel) ?_
    refine wq_goto_ok (tgt := 82) h0 kd_M_part_64 (by decide) ?_
    exact hb_82
  have hb_81 : wq_Snd p l e ({ frames := 1, cells := 0, slots := 0, locals := 25 } : Room) s m args below meth c 7 cs D kz_cl A (wq_G0 ad w) (wq_Q cs D kz_cl A (wq_G0 ad w) rt xt below s 0 0) 81 (kt_M_part_81 rt xt) := by
    refine wq_iconst_ok h0 kd_M_part_81 (by decide +kernel) ?_
    exact hb_82
  have hb_67 : wq_Snd p l e ({ frames := 1, cells := 0, slots := 0, locals := 25 } : Room) s m args below meth c 7 cs D kz_cl A (wq_G0 ad w) (wq_Q cs D kz_cl A (wq_G0 ad w) rt xt below s 0 0) 67 (kt_M_part_67 rt xt) := by
    refine wq_aload_n_ok h0 kd_M_part_67 rfl ?_
    refine wq_get_ok (wq_getOK h0 hts ki_M hown hK (ci := 9) rfl 27 (Nat.le_of_ble_eq_true rfl) kw_1009 rfl) kd_M_part_68 ?_
    refine wq_iload_n_ok h0 kd_M_part_71 rfl ?_
    refine wq_iald_ok h0 hK kd_M_part_72 ?_
    refine wq_iconst_ok h0 kd_M_part_73 (by decide +kernel) ?_
    refine wq_icmp_ne_ok (tgt := 81) h0 kd_M_part_74 (by decide) ?_ ?_
    · exact hb_81
    refine wq_iconst_ok h0 kd_M_part_77 (by decide +kernel) ?_
    refine wq_goto_ok (tgt := 82) h0 kd_M_part_78 (by decide) ?_
    exact hb_82
  have hb_46 : wq_Snd p l e ({ frames := 1, cells := 0, slots := 0, locals := 25 } : Room) s m args below meth c 7 cs D kz_cl A (wq_G0 ad w) (wq_Q cs D kz_cl A (wq_G0 ad w) rt xt below s 0 0) 46 (kt_M_part_46 rt xt) := by
    refine wq_istore_ok h0 kd_M_part_46 (Nat.le_of_ble_eq_true rfl) ?_
    refine wq_aload_n_ok h0 kd_M_part_48 rfl ?_
    refine wq_iload_ok h0 kd_M_part_49 ?_
    refine wq_if_eq_ok (tgt := 63) h0 kd_M_part_51 (by decide) ?_ ?_
    · exact hb_63
    refine wq_aload_n_ok h0 kd_M_part_54 rfl ?_
    refine wq_iload_n_ok h0 kd_M_part_55 rfl ?_
    refine wq_iload_n_ok h0 kd_M_part_56 rfl ?_
    refine wq_call_ok hA (wq_runV (ci := 9) ⟨h0.1, h0.2, hml, hown, hts⟩ (kv_M_reaches hl) ⟨(wq_cB hts kw_G kw_1271 kw_10 kw_1268 ⟨by decide +kernel, by decide +kernel, by decide +kernel⟩ rfl rfl ⟨Nat.le_of_ble_eq_true rfl, Nat.le_of_ble_eq_true rfl⟩), hts _ kw_1270, hts _ kw_s37⟩ rfl rfl hK hZ hN hA kd_M_part_57) (wq_xout_ok hnt hlk) ?_
    refine wq_if_eq_ok (tgt := 67) h0 kd_M_part_60 (by decide) ?_ ?_
    · exact hb_67
    exact hb_63
  have hb_45 : wq_Snd p l e ({ frames := 1, cells := 0, slots := 0, locals := 25 } : Room) s m args below meth c 7 cs D kz_cl A (wq_G0 ad w) (wq_Q cs D kz_cl A (wq_G0 ad w) rt xt below s 0 0) 45 (kt_M_part_45 rt xt) := by
    refine wq_iconst_ok h0 kd_M_part_45 (by decide +kernel) ?_
    exact hb_46
  have hb_0 : wq_Snd p l e ({ frames := 1, cells := 0, slots := 0, locals := 25 } : Room) s m args below meth c 7 cs D kz_cl A (wq_G0 ad w) (wq_Q cs D kz_cl A (wq_G0 ad w) rt xt below s 0 0) 0 (kt_M_part_0 rt xt) := by
    refine wq_iload_n_ok h0 kd_M_part_0 rfl ?_
    refine wq_iconst_ok h0 kd_M_part_1 (by decide +kernel) ?_
    refine wq_bipush_ok h0 kd_M_part_2 (by decide +kernel) ?_
    refine wq_call_ok hA (wq_runS ⟨h0.1, h0.2, hml, hown, hts⟩ (kv_M_within hl) ⟨(wq_cB hts kw_G kw_1209 kw_10 kw_1207 ⟨by decide +kernel, by decide +kernel, by decide +kernel⟩ rfl rfl ⟨Nat.le_of_ble_eq_true rfl, Nat.le_of_ble_eq_true rfl⟩), hts _ kw_1208⟩ hK hZ hN hA kd_M_part_4) (wq_xout_ok hnt hlk) ?_
    refine wq_if_eq_ok (tgt := 45) h0 kd_M_part_7 (by decide) ?_ ?_
    · exact hb_45
    refine wq_iload_n_ok h0 kd_M_part_10 rfl ?_
    refine wq_iconst_ok h0 kd_M_part_11 (by decide +kernel) ?_
    refine wq_bipush_ok h0 kd_M_part_12 (by decide +kernel) ?_
    refine wq_call_ok hA (wq_runS ⟨h0.1, h0.2, hml, hown, hts⟩ (kv_M_within hl) ⟨(wq_cB hts kw_G kw_1209 kw_10 kw_1207 ⟨by decide +kernel, by decide +kernel, by decide +kernel⟩ rfl rfl ⟨Nat.le_of_ble_eq_true rfl, Nat.le_of_ble_eq_true rfl⟩), hts _ kw_1208⟩ hK hZ hN hA kd_M_part_14) (wq_xout_ok hnt hlk) ?_
    refine wq_if_eq_ok (tgt := 45) h0 kd_M_part_17 (by decide) ?_ ?_
    · exact hb_45
    refine wq_iload_n_ok h0 kd_M_part_20 rfl ?_
    refine wq_iconst_ok h0 kd_M_part_21 (by decide +kernel) ?_
    refine wq_ldc_ok (v := 1000000) h0 hown (hts _ kw_1267) kd_M_part_22 ?_
    refine wq_call_ok hA (wq_runS ⟨h0.1, h0.2, hml, hown, hts⟩ (kv_M_within hl) ⟨(wq_cB hts kw_G kw_1209 kw_10 kw_1207 ⟨by decide +kernel, by decide +kernel, by decide +kernel⟩ rfl rfl ⟨Nat.le_of_ble_eq_true rfl, Nat.le_of_ble_eq_true rfl⟩), hts _ kw_1208⟩ hK hZ hN hA kd_M_part_24) (wq_xout_ok hnt hlk) ?_
    refine wq_if_eq_ok (tgt := 45) h0 kd_M_part_27 (by decide) ?_ ?_
    · exact hb_45
    refine wq_iload_ok h0 kd_M_part_30 ?_
    refine wq_iconst_ok h0 kd_M_part_32 (by decide +kernel) ?_
    refine wq_bipush_ok h0 kd_M_part_33 (by decide +kernel) ?_
    refine wq_call_ok hA (wq_runS ⟨h0.1, h0.2, hml, hown, hts⟩ (kv_M_within hl) ⟨(wq_cB hts kw_G kw_1209 kw_10 kw_1207 ⟨by decide +kernel, by decide +kernel, by decide +kernel⟩ rfl rfl ⟨Nat.le_of_ble_eq_true rfl, Nat.le_of_ble_eq_true rfl⟩), hts _ kw_1208⟩ hK hZ hN hA kd_M_part_35) (wq_xout_ok hnt hlk) ?_
    refine wq_if_eq_ok (tgt := 45) h0 kd_M_part_38 (by decide) ?_ ?_
    · exact hb_45
    refine wq_iconst_ok h0 kd_M_part_41 (by decide +kernel) ?_
    refine wq_goto_ok (tgt := 46) h0 kd_M_part_42 (by decide) ?_
    exact hb_46
  exact hb_0 _ _ _ _ _ (wq_sp_t hsp)
set_option maxRecDepth 100000 in
set_option maxHeartbeats 4000000 in
theorem kv_M_zone {l : Launch} (hl : l.stackTraces = false) : wq_Vld l kz_cl ky_M_zone kw_T ({ frames := 1, cells := 0, slots := 0, locals := 22 }) wq_G0 ks_M_zone 0 0 := by
  refine wq_method (cc := kc_M_zone) (maxL := 3) (ret := none) (by decide) kw_1275 (fun _ _ => rfl) wq_sp_sz ?_
  intro p e s m args below meth c cs D ad as w rt xt hF hnt hsp
  obtain ⟨h0, hr, hts, hown, hlk, hnm, hml, hK, hZ, hN, hA⟩ := hF
  have hown : s.vm.findClass "BorderDeskModel" = some m.cls := hown
  obtain ⟨A, hAe⟩ : ∃ A, A = wq_A ad w s.heap.size := ⟨_, rfl⟩
  rw [← hAe] at hZ hA ⊢
  have hb_43 : wq_Snd p l e ({ frames := 1, cells := 0, slots := 0, locals := 22 } : Room) s m args below meth c 3 cs D kz_cl A (wq_G0 ad w) (wq_Q cs D kz_cl A (wq_G0 ad w) rt xt below s 0 0) 43 (kt_M_zone_43 rt xt) := by
    exact wq_vreturn_ok h0 hr hlk kd_M_zone_43
  have hb_26 : wq_Snd p l e ({ frames := 1, cells := 0, slots := 0, locals := 22 } : Room) s m args below meth c 3 cs D kz_cl A (wq_G0 ad w) (wq_Q cs D kz_cl A (wq_G0 ad w) rt xt below s 0 0) 26 (kt_M_zone_26 rt xt) := by
    refine wq_put_ok (wq_putOK h0 hts ki_M ka_M kb_M kn_M hown hK (ci := 9) rfl 0 (Nat.le_of_ble_eq_true rfl) kw_982 rfl (Or.inl rfl) wq_okI) kd_M_zone_26 ?_
    refine wq_aload_n_ok h0 kd_M_zone_29 rfl ?_
    refine wq_get_ok (wq_getOK h0 hts ki_M hown hK (ci := 9) rfl 0 (Nat.le_of_ble_eq_true rfl) kw_982 rfl) kd_M_zone_30 ?_
    refine wq_if_ne_ok (tgt := 43) h0 kd_M_zone_33 (by decide) ?_ ?_
    · exact hb_43
    refine wq_aload_n_ok h0 kd_M_zone_36 rfl ?_
    refine wq_get_ok (wq_getOK h0 hts ki_M hown hK (ci := 9) rfl 31 (Nat.le_of_ble_eq_true rfl) kw_1013 rfl) kd_M_zone_37 ?_
    refine wq_iload_n_ok h0 kd_M_zone_40 rfl ?_
    refine wq_iload_n_ok h0 kd_M_zone_41 rfl ?_
    refine wq_iast_ok h0 hK kd_M_zone_42 ?_
    exact hb_43
  have hb_25 : wq_Snd p l e ({ frames := 1, cells := 0, slots := 0, locals := 22 } : Room) s m args below meth c 3 cs D kz_cl A (wq_G0 ad w) (wq_Q cs D kz_cl A (wq_G0 ad w) rt xt below s 0 0) 25 (kt_M_zone_25 rt xt) := by
    refine wq_iconst_ok h0 kd_M_zone_25 (by decide +kernel) ?_
    exact hb_26
  have hb_0 : wq_Snd p l e ({ frames := 1, cells := 0, slots := 0, locals := 22 } : Room) s m args below meth c 3 cs D kz_cl A (wq_G0 ad w) (wq_Q cs D kz_cl A (wq_G0 ad w) rt xt below s 0 0) 0 (kt_M_zone_0 rt xt) := by
    refine wq_aload_n_ok h0 kd_M_zone_0 rfl ?_
    refine wq_iload_n_ok h0 kd_M_zone_1 rfl ?_
    refine wq_iconst_ok h0 kd_M_zone_2 (by decide +kernel) ?_
    refine wq_iconst_ok h0 kd_M_zone_3 (by decide +kernel) ?_
    refine wq_call_ok hA (wq_runS ⟨h0.1, h0.2, hml, hown, hts⟩ (kv_M_within hl) ⟨(wq_cB hts kw_G kw_1209 kw_10 kw_1207 ⟨by decide +kernel, by decide +kernel, by decide +kernel⟩ rfl rfl ⟨Nat.le_of_ble_eq_true rfl, Nat.le_of_ble_eq_true rfl⟩), hts _ kw_1208⟩ hK hZ hN hA kd_M_zone_4) (wq_xout_ok hnt hlk) ?_
    refine wq_if_eq_ok (tgt := 25) h0 kd_M_zone_7 (by decide) ?_ ?_
    · exact hb_25
    refine wq_iload_n_ok h0 kd_M_zone_10 rfl ?_
    refine wq_iconst_ok h0 kd_M_zone_11 (by decide +kernel) ?_
    refine wq_sipush_ok h0 kd_M_zone_12 (by decide +kernel) ?_
    refine wq_call_ok hA (wq_runS ⟨h0.1, h0.2, hml, hown, hts⟩ (kv_M_within hl) ⟨(wq_cB hts kw_G kw_1209 kw_10 kw_1207 ⟨by decide +kernel, by decide +kernel, by decide +kernel⟩ rfl rfl ⟨Nat.le_of_ble_eq_true rfl, Nat.le_of_ble_eq_true rfl⟩), hts _ kw_1208⟩ hK hZ hN hA kd_M_zone_15) (wq_xout_ok hnt hlk) ?_
    refine wq_if_eq_ok (tgt := 25) h0 kd_M_zone_18 (by decide) ?_ ?_
    · exact hb_25
    refine wq_iconst_ok h0 kd_M_zone_21 (by decide +kernel) ?_
    refine wq_goto_ok (tgt := 26) h0 kd_M_zone_22 (by decide) ?_
    exact hb_26
  exact hb_0 _ _ _ _ _ (wq_sp_t hsp)
set_option maxRecDepth 100000 in
set_option maxHeartbeats 4000000 in
theorem kv_M_rule {l : Launch} (hl : l.stackTraces = false) : wq_Vld l kz_cl ky_M_rule kw_T ({ frames := 1, cells := 0, slots := 0, locals := 22 }) wq_G0 ks_M_rule 0 0 := by
  refine wq_method (cc := kc_M_rule) (maxL := 4) (ret := none) (by decide) kw_1279 (fun _ _ => rfl) wq_sp_sz ?_
  intro p e s m args below meth c cs D ad as w rt xt hF hnt hsp
  obtain ⟨h0, hr, hts, hown, hlk, hnm, hml, hK, hZ, hN, hA⟩ := hF
  have hown : s.vm.findClass "BorderDeskModel" = some m.cls := hown
  obtain ⟨A, hAe⟩ : ∃ A, A = wq_A ad w s.heap.size := ⟨_, rfl⟩
  rw [← hAe] at hZ hA ⊢
  have hb_58 : wq_Snd p l e ({ frames := 1, cells := 0, slots := 0, locals := 22 } : Room) s m args below meth c 4 cs D kz_cl A (wq_G0 ad w) (wq_Q cs D kz_cl A (wq_G0 ad w) rt xt below s 0 0) 58 (kt_M_rule_58 rt xt) := by
    exact wq_vreturn_ok h0 hr hlk kd_M_rule_58
  have hb_34 : wq_Snd p l e ({ frames := 1, cells := 0, slots := 0, locals := 22 } : Room) s m args below meth c 4 cs D kz_cl A (wq_G0 ad w) (wq_Q cs D kz_cl A (wq_G0 ad w) rt xt below s 0 0) 34 (kt_M_rule_34 rt xt) := by
    refine wq_put_ok (wq_putOK h0 hts ki_M ka_M kb_M kn_M hown hK (ci := 9) rfl 0 (Nat.le_of_ble_eq_true rfl) kw_982 rfl (Or.inl rfl) wq_okI) kd_M_rule_34 ?_
    refine wq_aload_n_ok h0 kd_M_rule_37 rfl ?_
    refine wq_get_ok (wq_getOK h0 hts ki_M hown hK (ci := 9) rfl 0 (Nat.le_of_ble_eq_true rfl) kw_982 rfl) kd_M_rule_38 ?_
    refine wq_if_ne_ok (tgt := 58) h0 kd_M_rule_41 (by decide) ?_ ?_
    · exact hb_58
    refine wq_aload_n_ok h0 kd_M_rule_44 rfl ?_
    refine wq_get_ok (wq_getOK h0 hts ki_M hown hK (ci := 9) rfl 3 (Nat.le_of_ble_eq_true rfl) kw_985 rfl) kd_M_rule_45 ?_
    refine wq_iload_n_ok h0 kd_M_rule_48 rfl ?_
    refine wq_iload_n_ok h0 kd_M_rule_49 rfl ?_
    refine wq_iast_ok h0 hK kd_M_rule_50 ?_
    refine wq_aload_n_ok h0 kd_M_rule_51 rfl ?_
    refine wq_get_ok (wq_getOK h0 hts ki_M hown hK (ci := 9) rfl 4 (Nat.le_of_ble_eq_true rfl) kw_986 rfl) kd_M_rule_52 ?_
    refine wq_iload_n_ok h0 kd_M_rule_55 rfl ?_
    refine wq_iload_n_ok h0 kd_M_rule_56 rfl ?_
    refine wq_iast_ok h0 hK kd_M_rule_57 ?_
    exact hb_58
  have hb_33 : wq_Snd p l e ({ frames := 1, cells := 0, slots := 0, locals := 22 } : Room) s m args below meth c 4 cs D kz_cl A (wq_G0 ad w) (wq_Q cs D kz_cl A (wq_G0 ad w) rt xt below s 0 0) 33 (kt_M_rule_33 rt xt) := by
    refine wq_iconst_ok h0 kd_M_rule_33 (by decide +kernel) ?_
    exact hb_34
  have hb_0 : wq_Snd p l e ({ frames := 1, cells := 0, slots := 0, locals := 22 } : Room) s m args below meth c 4 cs D kz_cl A (wq_G0 ad w) (wq_Q cs D kz_cl A (wq_G0 ad w) rt xt below s 0 0) 0 (kt_M_rule_0 rt xt) := by
    refine wq_aload_n_ok h0 kd_M_rule_0 rfl ?_
    refine wq_aload_n_ok h0 kd_M_rule_1 rfl ?_
    refine wq_iload_n_ok h0 kd_M_rule_2 rfl ?_
    refine wq_call_ok hA (wq_runV (ci := 9) ⟨h0.1, h0.2, hml, hown, hts⟩ (kv_M_isHeading hl) ⟨(wq_cB hts kw_G kw_1198 kw_10 kw_1195 ⟨by decide +kernel, by decide +kernel, by decide +kernel⟩ rfl rfl ⟨Nat.le_of_ble_eq_true rfl, Nat.le_of_ble_eq_true rfl⟩), hts _ kw_1197, hts _ kw_s28⟩ rfl rfl hK hZ hN hA kd_M_rule_3) (wq_xout_ok hnt hlk) ?_
    refine wq_if_eq_ok (tgt := 33) h0 kd_M_rule_6 (by decide) ?_ ?_
    · exact hb_33
    refine wq_iload_n_ok h0 kd_M_rule_9 rfl ?_
    refine wq_iconst_ok h0 kd_M_rule_10 (by decide +kernel) ?_
    refine wq_iconst_ok h0 kd_M_rule_11 (by decide +kernel) ?_
    refine wq_call_ok hA (wq_runS ⟨h0.1, h0.2, hml, hown, hts⟩ (kv_M_within hl) ⟨(wq_cB hts kw_G kw_1209 kw_10 kw_1207 ⟨by decide +kernel, by decide +kernel, by decide +kernel⟩ rfl rfl ⟨Nat.le_of_ble_eq_true rfl, Nat.le_of_ble_eq_true rfl⟩), hts _ kw_1208⟩ hK hZ hN hA kd_M_rule_12) (wq_xout_ok hnt hlk) ?_
    refine wq_if_eq_ok (tgt := 33) h0 kd_M_rule_15 (by decide) ?_ ?_
    · exact hb_33
    refine wq_iload_n_ok h0 kd_M_rule_18 rfl ?_
    refine wq_iconst_ok h0 kd_M_rule_19 (by decide +kernel) ?_
    refine wq_sipush_ok h0 kd_M_rule_20 (by decide +kernel) ?_
    refine wq_call_ok hA (wq_runS ⟨h0.1, h0.2, hml, hown, hts⟩ (kv_M_within hl) ⟨(wq_cB hts kw_G kw_1209 kw_10 kw_1207 ⟨by decide +kernel, by decide +kernel, by decide +kernel⟩ rfl rfl ⟨Nat.le_of_ble_eq_true rfl, Nat.le_of_ble_eq_true rfl⟩), hts _ kw_1208⟩ hK hZ hN hA kd_M_rule_23) (wq_xout_ok hnt hlk) ?_
    refine wq_if_eq_ok (tgt := 33) h0 kd_M_rule_26 (by decide) ?_ ?_
    · exact hb_33
    refine wq_iconst_ok h0 kd_M_rule_29 (by decide +kernel) ?_
    refine wq_goto_ok (tgt := 34) h0 kd_M_rule_30 (by decide) ?_
    exact hb_34
  exact hb_0 _ _ _ _ _ (wq_sp_t hsp)
set_option maxRecDepth 100000 in
set_option maxHeartbeats 4000000 in
theorem kv_M_isMade {l : Launch} (hl : l.stackTraces = false) : wq_Vld l kz_cl ky_M_isMade kw_T ({ frames := 0, cells := 0, slots := 0, locals := 0 }) wq_G0 ks_M_isMade 0 0 := by
  refine wq_method (cc := kc_M_isMade) (maxL := 12) (ret := (some .boolean)) (by decide) kw_1287 (fun _ _ => rfl) wq_sp_sz ?_
  intro p e s m args below meth c cs D ad as w rt xt hF hnt hsp
  obtain ⟨h0, hr, hts, hown, hlk, hnm, hml, hK, hZ, hN, hA⟩ := hF
  have hown : s.vm.findClass "BorderDeskModel" = some m.cls := hown
  obtain ⟨A, hAe⟩ : ∃ A, A = wq_A ad w s.heap.size := ⟨_, rfl⟩
  rw [← hAe] at hZ hA ⊢
  have hall : ∀ K : Nat → wq_T, (∀ pc, pc ∈ [7, 59] → wq_Snd p l e ({ frames := 0, cells := 0, slots := 0, locals := 0 } : Room) s m args below meth c 12 cs D kz_cl A (wq_G0 ad w) (wq_Q cs D kz_cl A (wq_G0 ad w) rt xt below s 0 0) pc (K pc)) → (∀ pc, pc ∈ [7, 59] → wq_Snd p l e ({ frames := 0, cells := 0, slots := 0, locals := 0 } : Room) s m args below meth c 12 cs D kz_cl A (wq_G0 ad w) (wq_Q cs D kz_cl A (wq_G0 ad w) rt xt below s 0 0) pc (cond (Nat.beq pc 7) (kh_M_isMade_7 rt xt K) (cond (Nat.beq pc 59) (kh_M_isMade_59 rt xt K) (fun _ _ _ _ _ => False)))) ∧ wq_Snd p l e ({ frames := 0, cells := 0, slots := 0, locals := 0 } : Room) s m args below meth c 12 cs D kz_cl A (wq_G0 ad w) (wq_Q cs D kz_cl A (wq_G0 ad w) rt xt below s 0 0) 0 (kt_M_isMade_0 rt xt K) := by
    intro K hKc
    have hb_43 : wq_Snd p l e ({ frames := 0, cells := 0, slots := 0, locals := 0 } : Room) s m args below meth c 12 cs D kz_cl A (wq_G0 ad w) (wq_Q cs D kz_cl A (wq_G0 ad w) rt xt below s 0 0) 43 (kt_M_isMade_43 rt xt K) := by
      refine wq_iconst_ok h0 kd_M_isMade_43 (by decide +kernel) ?_
      exact wq_zreturn_ok h0 hr hlk kd_M_isMade_44
    have hb_45 : wq_Snd p l e ({ frames := 0, cells := 0, slots := 0, locals := 0 } : Room) s m args below meth c 12 cs D kz_cl A (wq_G0 ad w) (wq_Q cs D kz_cl A (wq_G0 ad w) rt xt below s 0 0) 45 (kt_M_isMade_45 rt xt K) := by
      refine wq_lconst_ok h0 kd_M_isMade_45 (by decide +kernel) ?_
      refine wq_lstore_ok h0 kd_M_isMade_46 (Nat.le_of_ble_eq_true rfl) ?_
      refine wq_lconst_ok h0 kd_M_isMade_48 (by decide +kernel) ?_
      refine wq_lstore_ok h0 kd_M_isMade_49 (Nat.le_of_ble_eq_true rfl) ?_
      refine wq_iconst_ok h0 kd_M_isMade_51 (by decide +kernel) ?_
      refine wq_istore_ok h0 kd_M_isMade_52 (Nat.le_of_ble_eq_true rfl) ?_
      refine wq_iconst_ok h0 kd_M_isMade_54 (by decide +kernel) ?_
      refine wq_iload_n_ok h0 kd_M_isMade_55 rfl ?_
      refine wq_imul_ok h0 kd_M_isMade_56 ?_
      refine wq_istore_ok h0 kd_M_isMade_57 (Nat.le_of_ble_eq_true rfl) ?_
      exact wq_can_ok (hKc 59 (by decide))
    have hb_30 : wq_Snd p l e ({ frames := 0, cells := 0, slots := 0, locals := 0 } : Room) s m args below meth c 12 cs D kz_cl A (wq_G0 ad w) (wq_Q cs D kz_cl A (wq_G0 ad w) rt xt below s 0 0) 30 (kt_M_isMade_30 rt xt K) := by
      refine wq_iload_n_ok h0 kd_M_isMade_30 rfl ?_
      refine wq_if_lt_ok (tgt := 43) h0 kd_M_isMade_31 (by decide) ?_ ?_
      · exact hb_43
      refine wq_aload_n_ok h0 kd_M_isMade_34 rfl ?_
      refine wq_get_ok (wq_getOK h0 hts ki_M hown hK (ci := 9) rfl 27 (Nat.le_of_ble_eq_true rfl) kw_1009 rfl) kd_M_isMade_35 ?_
      refine wq_iload_n_ok h0 kd_M_isMade_38 rfl ?_
      refine wq_iald_ok h0 hK kd_M_isMade_39 ?_
      refine wq_if_ne_ok (tgt := 45) h0 kd_M_isMade_40 (by decide) ?_ ?_
      · exact hb_45
      exact hb_43
    have hb_7 : wq_Snd p l e ({ frames := 0, cells := 0, slots := 0, locals := 0 } : Room) s m args below meth c 12 cs D kz_cl A (wq_G0 ad w) (wq_Q cs D kz_cl A (wq_G0 ad w) rt xt below s 0 0) 7 (kh_M_isMade_7 rt xt K) := by
      refine wq_iload_n_ok h0 kd_M_isMade_7 rfl ?_
      refine wq_if_lt_ok (tgt := 30) h0 kd_M_isMade_8 (by decide) ?_ ?_
      · exact hb_30
      refine wq_aload_n_ok h0 kd_M_isMade_11 rfl ?_
      refine wq_get_ok (wq_getOK h0 hts ki_M hown hK (ci := 9) rfl 3 (Nat.le_of_ble_eq_true rfl) kw_985 rfl) kd_M_isMade_12 ?_
      refine wq_iload_n_ok h0 kd_M_isMade_15 rfl ?_
      refine wq_iald_ok h0 hK kd_M_isMade_16 ?_
      refine wq_if_ge_ok (tgt := 30) h0 kd_M_isMade_17 (by decide) ?_ ?_
      · exact hb_30
      refine wq_aload_n_ok h0 kd_M_isMade_20 rfl ?_
      refine wq_get_ok (wq_getOK h0 hts ki_M hown hK (ci := 9) rfl 2 (Nat.le_of_ble_eq_true rfl) kw_984 rfl) kd_M_isMade_21 ?_
      refine wq_iload_n_ok h0 kd_M_isMade_24 rfl ?_
      refine wq_iald_ok h0 hK kd_M_isMade_25 ?_
      refine wq_istore_n_ok h0 kd_M_isMade_26 rfl (Nat.le_of_ble_eq_true rfl) ?_
      refine wq_goto_ok (tgt := 7) h0 kd_M_isMade_27 (by decide) ?_
      exact wq_can_ok (hKc 7 (by decide))
    have hb_238 : wq_Snd p l e ({ frames := 0, cells := 0, slots := 0, locals := 0 } : Room) s m args below meth c 12 cs D kz_cl A (wq_G0 ad w) (wq_Q cs D kz_cl A (wq_G0 ad w) rt xt below s 0 0) 238 (kt_M_isMade_238 rt xt K) := by
      exact wq_zreturn_ok h0 hr hlk kd_M_isMade_238
    have hb_237 : wq_Snd p l e ({ frames := 0, cells := 0, slots := 0, locals := 0 } : Room) s m args below meth c 12 cs D kz_cl A (wq_G0 ad w) (wq_Q cs D kz_cl A (wq_G0 ad w) rt xt below s 0 0) 237 (kt_M_isMade_237 rt xt K) := by
      refine wq_iconst_ok h0 kd_M_isMade_237 (by decide +kernel) ?_
      exact hb_238
    have hb_213 : wq_Snd p l e ({ frames := 0, cells := 0, slots := 0, locals := 0 } : Room) s m args below meth c 12 cs D kz_cl A (wq_G0 ad w) (wq_Q cs D kz_cl A (wq_G0 ad w) rt xt below s 0 0) 213 (kt_M_isMade_213 rt xt K) := by
      refine wq_ldc2_ok (v := 1000) h0 hown (hts _ kw_1288) kd_M_isMade_213 ?_
      refine wq_lload_ok h0 kd_M_isMade_216 ?_
      refine wq_lmul_ok h0 kd_M_isMade_218 ?_
      refine wq_aload_n_ok h0 kd_M_isMade_219 rfl ?_
      refine wq_get_ok (wq_getOK h0 hts ki_M hown hK (ci := 9) rfl 4 (Nat.le_of_ble_eq_true rfl) kw_986 rfl) kd_M_isMade_220 ?_
      refine wq_iload_n_ok h0 kd_M_isMade_223 rfl ?_
      refine wq_iald_ok h0 hK kd_M_isMade_224 ?_
      refine wq_i2l_ok h0 kd_M_isMade_225 ?_
      refine wq_lload_ok h0 kd_M_isMade_226 ?_
      refine wq_lmul_ok h0 kd_M_isMade_228 ?_
      refine wq_lcmp_gt_ok (tgt := 237) h0 kd_M_isMade_229 kd_M_isMade_230 (by decide) ?_ ?_
      · exact hb_237
      refine wq_iconst_ok h0 kd_M_isMade_233 (by decide +kernel) ?_
      refine wq_goto_ok (tgt := 238) h0 kd_M_isMade_234 (by decide) ?_
      exact hb_238
    have hb_199 : wq_Snd p l e ({ frames := 0, cells := 0, slots := 0, locals := 0 } : Room) s m args below meth c 12 cs D kz_cl A (wq_G0 ad w) (wq_Q cs D kz_cl A (wq_G0 ad w) rt xt below s 0 0) 199 (kt_M_isMade_199 rt xt K) := by
      refine wq_aload_n_ok h0 kd_M_isMade_199 rfl ?_
      refine wq_get_ok (wq_getOK h0 hts ki_M hown hK (ci := 9) rfl 3 (Nat.le_of_ble_eq_true rfl) kw_985 rfl) kd_M_isMade_200 ?_
      refine wq_iload_n_ok h0 kd_M_isMade_203 rfl ?_
      refine wq_iald_ok h0 hK kd_M_isMade_204 ?_
      refine wq_if_ne_ok (tgt := 213) h0 kd_M_isMade_205 (by decide) ?_ ?_
      · exact hb_213
      refine wq_iload_ok h0 kd_M_isMade_208 ?_
      refine wq_goto_ok (tgt := 238) h0 kd_M_isMade_210 (by decide) ?_
      exact hb_238
    have hb_191 : wq_Snd p l e ({ frames := 0, cells := 0, slots := 0, locals := 0 } : Room) s m args below meth c 12 cs D kz_cl A (wq_G0 ad w) (wq_Q cs D kz_cl A (wq_G0 ad w) rt xt below s 0 0) 191 (kt_M_isMade_191 rt xt K) := by
      refine wq_istore_ok h0 kd_M_isMade_191 (Nat.le_of_ble_eq_true rfl) ?_
      refine wq_iinc_ok h0 kd_M_isMade_193 (by decide +kernel) (Nat.le_of_ble_eq_true rfl) ?_
      refine wq_goto_ok (tgt := 59) h0 kd_M_isMade_196 (by decide) ?_
      exact wq_can_ok (hKc 59 (by decide))
    have hb_190 : wq_Snd p l e ({ frames := 0, cells := 0, slots := 0, locals := 0 } : Room) s m args below meth c 12 cs D kz_cl A (wq_G0 ad w) (wq_Q cs D kz_cl A (wq_G0 ad w) rt xt below s 0 0) 190 (kt_M_isMade_190 rt xt K) := by
      refine wq_iconst_ok h0 kd_M_isMade_190 (by decide +kernel) ?_
      exact hb_191
    have hb_186 : wq_Snd p l e ({ frames := 0, cells := 0, slots := 0, locals := 0 } : Room) s m args below meth c 12 cs D kz_cl A (wq_G0 ad w) (wq_Q cs D kz_cl A (wq_G0 ad w) rt xt below s 0 0) 186 (kt_M_isMade_186 rt xt K) := by
      refine wq_iconst_ok h0 kd_M_isMade_186 (by decide +kernel) ?_
      refine wq_goto_ok (tgt := 191) h0 kd_M_isMade_187 (by decide) ?_
      exact hb_191
    have hb_158 : wq_Snd p l e ({ frames := 0, cells := 0, slots := 0, locals := 0 } : Room) s m args below meth c 12 cs D kz_cl A (wq_G0 ad w) (wq_Q cs D kz_cl A (wq_G0 ad w) rt xt below s 0 0) 158 (kt_M_isMade_158 rt xt K) := by
      refine wq_lstore_ok h0 kd_M_isMade_158 (Nat.le_of_ble_eq_true rfl) ?_
      refine wq_iload_ok h0 kd_M_isMade_160 ?_
      refine wq_if_eq_ok (tgt := 190) h0 kd_M_isMade_162 (by decide) ?_ ?_
      · exact hb_190
      refine wq_iload_ok h0 kd_M_isMade_165 ?_
      refine wq_if_eq_ok (tgt := 186) h0 kd_M_isMade_167 (by decide) ?_ ?_
      · exact hb_186
      refine wq_aload_n_ok h0 kd_M_isMade_170 rfl ?_
      refine wq_get_ok (wq_getOK h0 hts ki_M hown hK (ci := 9) rfl 32 (Nat.le_of_ble_eq_true rfl) kw_1014 rfl) kd_M_isMade_171 ?_
      refine wq_iload_ok h0 kd_M_isMade_174 ?_
      refine wq_iald_ok h0 hK kd_M_isMade_176 ?_
      refine wq_aload_n_ok h0 kd_M_isMade_177 rfl ?_
      refine wq_get_ok (wq_getOK h0 hts ki_M hown hK (ci := 9) rfl 32 (Nat.le_of_ble_eq_true rfl) kw_1014 rfl) kd_M_isMade_178 ?_
      refine wq_iload_n_ok h0 kd_M_isMade_181 rfl ?_
      refine wq_iald_ok h0 hK kd_M_isMade_182 ?_
      refine wq_icmp_eq_ok (tgt := 190) h0 kd_M_isMade_183 (by decide) ?_ ?_
      · exact hb_190
      exact hb_186
    have hb_156 : wq_Snd p l e ({ frames := 0, cells := 0, slots := 0, locals := 0 } : Room) s m args below meth c 12 cs D kz_cl A (wq_G0 ad w) (wq_Q cs D kz_cl A (wq_G0 ad w) rt xt below s 0 0) 156 (kt_M_isMade_156 rt xt K) := by
      refine wq_lload_ok h0 kd_M_isMade_156 ?_
      exact hb_158
    have hb_122 : wq_Snd p l e ({ frames := 0, cells := 0, slots := 0, locals := 0 } : Room) s m args below meth c 12 cs D kz_cl A (wq_G0 ad w) (wq_Q cs D kz_cl A (wq_G0 ad w) rt xt below s 0 0) 122 (kt_M_isMade_122 rt xt K) := by
      refine wq_istore_ok h0 kd_M_isMade_122 (Nat.le_of_ble_eq_true rfl) ?_
      refine wq_lload_ok h0 kd_M_isMade_124 ?_
      refine wq_aload_n_ok h0 kd_M_isMade_126 rfl ?_
      refine wq_get_ok (wq_getOK h0 hts ki_M hown hK (ci := 9) rfl 29 (Nat.le_of_ble_eq_true rfl) kw_1011 rfl) kd_M_isMade_127 ?_
      refine wq_iload_ok h0 kd_M_isMade_130 ?_
      refine wq_iald_ok h0 hK kd_M_isMade_132 ?_
      refine wq_i2l_ok h0 kd_M_isMade_133 ?_
      refine wq_ladd_ok h0 kd_M_isMade_134 ?_
      refine wq_lstore_ok h0 kd_M_isMade_135 (Nat.le_of_ble_eq_true rfl) ?_
      refine wq_iload_ok h0 kd_M_isMade_137 ?_
      refine wq_if_eq_ok (tgt := 156) h0 kd_M_isMade_139 (by decide) ?_ ?_
      · exact hb_156
      refine wq_lload_ok h0 kd_M_isMade_142 ?_
      refine wq_aload_n_ok h0 kd_M_isMade_144 rfl ?_
      refine wq_get_ok (wq_getOK h0 hts ki_M hown hK (ci := 9) rfl 29 (Nat.le_of_ble_eq_true rfl) kw_1011 rfl) kd_M_isMade_145 ?_
      refine wq_iload_ok h0 kd_M_isMade_148 ?_
      refine wq_iald_ok h0 hK kd_M_isMade_150 ?_
      refine wq_i2l_ok h0 kd_M_isMade_151 ?_
      refine wq_ladd_ok h0 kd_M_isMade_152 ?_
      refine wq_goto_ok (tgt := 158) h0 kd_M_isMade_153 (by decide) ?_
      exact hb_158
    have hb_117 : wq_Snd p l e ({ frames := 0, cells := 0, slots := 0, locals := 0 } : Room) s m args below meth c 12 cs D kz_cl A (wq_G0 ad w) (wq_Q cs D kz_cl A (wq_G0 ad w) rt xt below s 0 0) 117 (kt_M_isMade_117 rt xt K) := by
      refine wq_iconst_ok h0 kd_M_isMade_117 (by decide +kernel) ?_
      refine wq_goto_ok (tgt := 122) h0 kd_M_isMade_118 (by decide) ?_
      exact hb_122
    have hb_121 : wq_Snd p l e ({ frames := 0, cells := 0, slots := 0, locals := 0 } : Room) s m args below meth c 12 cs D kz_cl A (wq_G0 ad w) (wq_Q cs D kz_cl A (wq_G0 ad w) rt xt below s 0 0) 121 (kt_M_isMade_121 rt xt K) := by
      refine wq_iconst_ok h0 kd_M_isMade_121 (by decide +kernel) ?_
      exact hb_122
    have hb_59 : wq_Snd p l e ({ frames := 0, cells := 0, slots := 0, locals := 0 } : Room) s m args below meth c 12 cs D kz_cl A (wq_G0 ad w) (wq_Q cs D kz_cl A (wq_G0 ad w) rt xt below s 0 0) 59 (kh_M_isMade_59 rt xt K) := by
      refine wq_iload_ok h0 kd_M_isMade_59 ?_
      refine wq_iconst_ok h0 kd_M_isMade_61 (by decide +kernel) ?_
      refine wq_iload_n_ok h0 kd_M_isMade_62 rfl ?_
      refine wq_imul_ok h0 kd_M_isMade_63 ?_
      refine wq_aload_n_ok h0 kd_M_isMade_64 rfl ?_
      refine wq_get_ok (wq_getOK h0 hts ki_M hown hK (ci := 9) rfl 27 (Nat.le_of_ble_eq_true rfl) kw_1009 rfl) kd_M_isMade_65 ?_
      refine wq_iload_n_ok h0 kd_M_isMade_68 rfl ?_
      refine wq_iald_ok h0 hK kd_M_isMade_69 ?_
      refine wq_iadd_ok h0 kd_M_isMade_70 ?_
      refine wq_icmp_ge_ok (tgt := 199) h0 kd_M_isMade_71 (by decide) ?_ ?_
      · exact hb_199
      refine wq_aload_n_ok h0 kd_M_isMade_74 rfl ?_
      refine wq_get_ok (wq_getOK h0 hts ki_M hown hK (ci := 9) rfl 28 (Nat.le_of_ble_eq_true rfl) kw_1010 rfl) kd_M_isMade_75 ?_
      refine wq_iload_ok h0 kd_M_isMade_78 ?_
      refine wq_iald_ok h0 hK kd_M_isMade_80 ?_
      refine wq_istore_ok h0 kd_M_isMade_81 (Nat.le_of_ble_eq_true rfl) ?_
      refine wq_iload_n_ok h0 kd_M_isMade_83 rfl ?_
      refine wq_aload_n_ok h0 kd_M_isMade_84 rfl ?_
      refine wq_get_ok (wq_getOK h0 hts ki_M hown hK (ci := 9) rfl 30 (Nat.le_of_ble_eq_true rfl) kw_1012 rfl) kd_M_isMade_85 ?_
      refine wq_iload_ok h0 kd_M_isMade_88 ?_
      refine wq_iald_ok h0 hK kd_M_isMade_90 ?_
      refine wq_ishr_ok h0 kd_M_isMade_91 ?_
      refine wq_iconst_ok h0 kd_M_isMade_92 (by decide +kernel) ?_
      refine wq_iand_ok h0 kd_M_isMade_93 ?_
      refine wq_if_eq_ok (tgt := 117) h0 kd_M_isMade_94 (by decide) ?_ ?_
      · exact hb_117
      refine wq_aload_n_ok h0 kd_M_isMade_97 rfl ?_
      refine wq_get_ok (wq_getOK h0 hts ki_M hown hK (ci := 9) rfl 27 (Nat.le_of_ble_eq_true rfl) kw_1009 rfl) kd_M_isMade_98 ?_
      refine wq_iload_ok h0 kd_M_isMade_101 ?_
      refine wq_iald_ok h0 hK kd_M_isMade_103 ?_
      refine wq_if_le_ok (tgt := 121) h0 kd_M_isMade_104 (by decide) ?_ ?_
      · exact hb_121
      refine wq_aload_n_ok h0 kd_M_isMade_107 rfl ?_
      refine wq_get_ok (wq_getOK h0 hts ki_M hown hK (ci := 9) rfl 34 (Nat.le_of_ble_eq_true rfl) kw_1016 rfl) kd_M_isMade_108 ?_
      refine wq_iload_ok h0 kd_M_isMade_111 ?_
      refine wq_zald_ok h0 hK kd_M_isMade_113 ?_
      refine wq_if_ne_ok (tgt := 121) h0 kd_M_isMade_114 (by decide) ?_ ?_
      · exact hb_121
      exact hb_117
    have hb_0 : wq_Snd p l e ({ frames := 0, cells := 0, slots := 0, locals := 0 } : Room) s m args below meth c 12 cs D kz_cl A (wq_G0 ad w) (wq_Q cs D kz_cl A (wq_G0 ad w) rt xt below s 0 0) 0 (kt_M_isMade_0 rt xt K) := by
      refine wq_aload_n_ok h0 kd_M_isMade_0 rfl ?_
      refine wq_get_ok (wq_getOK h0 hts ki_M hown hK (ci := 9) rfl 32 (Nat.le_of_ble_eq_true rfl) kw_1014 rfl) kd_M_isMade_1 ?_
      refine wq_iload_n_ok h0 kd_M_isMade_4 rfl ?_
      refine wq_iald_ok h0 hK kd_M_isMade_5 ?_
      refine wq_istore_n_ok h0 kd_M_isMade_6 rfl (Nat.le_of_ble_eq_true rfl) ?_
      exact wq_can_ok (hKc 7 (by decide))
    refine ⟨?_, hb_0⟩
    exact List.forall_mem_cons.mpr ⟨hb_7, List.forall_mem_cons.mpr ⟨hb_59, fun _ h => absurd h List.not_mem_nil⟩⟩
  have hun : ∀ (n pc : Nat), pc ∈ [7, 59] → wq_Snd p l e ({ frames := 0, cells := 0, slots := 0, locals := 0 } : Room) s m args below meth c 12 cs D kz_cl A (wq_G0 ad w) (wq_Q cs D kz_cl A (wq_G0 ad w) rt xt below s 0 0) pc (ku_M_isMade rt xt n pc) := by
    intro n
    induction n with
    | zero => intro pc _ L S w9 n1 n2 h; exact h.elim
    | succ n ih => intro pc hpc; exact (hall (ku_M_isMade rt xt n) ih).1 pc hpc
  exact (hall (ku_M_isMade rt xt 1000000000000) (hun 1000000000000)).2 _ _ _ _ _ (wq_sp_t hsp)
set_option maxRecDepth 100000 in
set_option maxHeartbeats 4000000 in
theorem kv_M_madeIn {l : Launch} (hl : l.stackTraces = false) : wq_Vld l kz_cl ky_M_madeIn kw_T ({ frames := 3, cells := 0, slots := 0, locals := 73 }) wq_G0 ks_M_madeIn 0 0 := by
  refine wq_method (cc := kc_M_madeIn) (maxL := 7) (ret := (some .boolean)) (by decide) kw_1283 (fun _ _ => rfl) wq_sp_sz ?_
  intro p e s m args below meth c cs D ad as w rt xt hF hnt hsp
  obtain ⟨h0, hr, hts, hown, hlk, hnm, hml, hK, hZ, hN, hA⟩ := hF
  have hown : s.vm.findClass "BorderDeskModel" = some m.cls := hown
  obtain ⟨A, hAe⟩ : ∃ A, A = wq_A ad w s.heap.size := ⟨_, rfl⟩
  rw [← hAe] at hZ hA ⊢
  have hall : ∀ K : Nat → wq_T, (∀ pc, pc ∈ [39, 71, 80, 110] → wq_Snd p l e ({ frames := 3, cells := 0, slots := 0, locals := 73 } : Room) s m args below meth c 7 cs D kz_cl A (wq_G0 ad w) (wq_Q cs D kz_cl A (wq_G0 ad w) rt xt below s 0 0) pc (K pc)) → (∀ pc, pc ∈ [39, 71, 80, 110] → wq_Snd p l e ({ frames := 3, cells := 0, slots := 0, locals := 73 } : Room) s m args below meth c 7 cs D kz_cl A (wq_G0 ad w) (wq_Q cs D kz_cl A (wq_G0 ad w) rt xt below s 0 0) pc (cond (Nat.beq pc 39) (kh_M_madeIn_39 rt xt K) (cond (Nat.beq pc 71) (kh_M_madeIn_71 rt xt K) (cond (Nat.beq pc 80) (kh_M_madeIn_80 rt xt K) (cond (Nat.beq pc 110) (kh_M_madeIn_110 rt xt K) (fun _ _ _ _ _ => False)))))) ∧ wq_Snd p l e ({ frames := 3, cells := 0, slots := 0, locals := 73 } : Room) s m args below meth c 7 cs D kz_cl A (wq_G0 ad w) (wq_Q cs D kz_cl A (wq_G0 ad w) rt xt below s 0 0) 0 (kt_M_madeIn_0 rt xt K) := by
    intro K hKc
    have hb_69 : wq_Snd p l e ({ frames := 3, cells := 0, slots := 0, locals := 73 } : Room) s m args below meth c 7 cs D kz_cl A (wq_G0 ad w) (wq_Q cs D kz_cl A (wq_G0 ad w) rt xt below s 0 0) 69 (kt_M_madeIn_69 rt xt K) := by
      refine wq_iconst_ok h0 kd_M_madeIn_69 (by decide +kernel) ?_
      refine wq_istore_n_ok h0 kd_M_madeIn_70 rfl (Nat.le_of_ble_eq_true rfl) ?_
      exact wq_can_ok (hKc 71 (by decide))
    have hb_39 : wq_Snd p l e ({ frames := 3, cells := 0, slots := 0, locals := 73 } : Room) s m args below meth c 7 cs D kz_cl A (wq_G0 ad w) (wq_Q cs D kz_cl A (wq_G0 ad w) rt xt below s 0 0) 39 (kh_M_madeIn_39 rt xt K) := by
      refine wq_iload_n_ok h0 kd_M_madeIn_39 rfl ?_
      refine wq_bipush_ok h0 kd_M_madeIn_40 (by decide +kernel) ?_
      refine wq_icmp_ge_ok (tgt := 69) h0 kd_M_madeIn_42 (by decide) ?_ ?_
      · exact hb_69
      refine wq_aload_n_ok h0 kd_M_madeIn_45 rfl ?_
      refine wq_get_ok (wq_getOK h0 hts ki_M hown hK (ci := 9) rfl 33 (Nat.le_of_ble_eq_true rfl) kw_1015 rfl) kd_M_madeIn_46 ?_
      refine wq_iload_n_ok h0 kd_M_madeIn_49 rfl ?_
      refine wq_iconst_ok h0 kd_M_madeIn_50 (by decide +kernel) ?_
      refine wq_zast_ok h0 hK kd_M_madeIn_51 ?_
      refine wq_aload_n_ok h0 kd_M_madeIn_52 rfl ?_
      refine wq_get_ok (wq_getOK h0 hts ki_M hown hK (ci := 9) rfl 32 (Nat.le_of_ble_eq_true rfl) kw_1014 rfl) kd_M_madeIn_53 ?_
      refine wq_iload_n_ok h0 kd_M_madeIn_56 rfl ?_
      refine wq_aload_n_ok h0 kd_M_madeIn_57 rfl ?_
      refine wq_iload_n_ok h0 kd_M_madeIn_58 rfl ?_
      refine wq_call_ok hA (wq_runV (ci := 9) ⟨h0.1, h0.2, hml, hown, hts⟩ (kv_M_classOf hl) ⟨(wq_cB hts kw_G kw_1221 kw_10 kw_1218 ⟨by decide +kernel, by decide +kernel, by decide +kernel⟩ rfl rfl ⟨Nat.le_of_ble_eq_true rfl, Nat.le_of_ble_eq_true rfl⟩), hts _ kw_1220, hts _ kw_s30⟩ rfl rfl hK hZ hN hA kd_M_madeIn_59) (wq_xout_ok hnt hlk) ?_
      refine wq_iast_ok h0 hK kd_M_madeIn_62 ?_
      refine wq_iinc_ok h0 kd_M_madeIn_63 (by decide +kernel) (Nat.le_of_ble_eq_true rfl) ?_
      refine wq_goto_ok (tgt := 39) h0 kd_M_madeIn_66 (by decide) ?_
      exact wq_can_ok (hKc 39 (by decide))
    have hb_204 : wq_Snd p l e ({ frames := 3, cells := 0, slots := 0, locals := 73 } : Room) s m args below meth c 7 cs D kz_cl A (wq_G0 ad w) (wq_Q cs D kz_cl A (wq_G0 ad w) rt xt below s 0 0) 204 (kt_M_madeIn_204 rt xt K) := by
      refine wq_aload_n_ok h0 kd_M_madeIn_204 rfl ?_
      refine wq_get_ok (wq_getOK h0 hts ki_M hown hK (ci := 9) rfl 34 (Nat.le_of_ble_eq_true rfl) kw_1016 rfl) kd_M_madeIn_205 ?_
      refine wq_iload_n_ok h0 kd_M_madeIn_208 rfl ?_
      refine wq_zald_ok h0 hK kd_M_madeIn_209 ?_
      exact wq_zreturn_ok h0 hr hlk kd_M_madeIn_210
    have hb_71 : wq_Snd p l e ({ frames := 3, cells := 0, slots := 0, locals := 73 } : Room) s m args below meth c 7 cs D kz_cl A (wq_G0 ad w) (wq_Q cs D kz_cl A (wq_G0 ad w) rt xt below s 0 0) 71 (kh_M_madeIn_71 rt xt K) := by
      refine wq_iload_n_ok h0 kd_M_madeIn_71 rfl ?_
      refine wq_bipush_ok h0 kd_M_madeIn_72 (by decide +kernel) ?_
      refine wq_icmp_ge_ok (tgt := 204) h0 kd_M_madeIn_74 (by decide) ?_ ?_
      · exact hb_204
      refine wq_iconst_ok h0 kd_M_madeIn_77 (by decide +kernel) ?_
      refine wq_istore_ok h0 kd_M_madeIn_78 (Nat.le_of_ble_eq_true rfl) ?_
      exact wq_can_ok (hKc 80 (by decide))
    have hb_198 : wq_Snd p l e ({ frames := 3, cells := 0, slots := 0, locals := 73 } : Room) s m args below meth c 7 cs D kz_cl A (wq_G0 ad w) (wq_Q cs D kz_cl A (wq_G0 ad w) rt xt below s 0 0) 198 (kt_M_madeIn_198 rt xt K) := by
      refine wq_iinc_ok h0 kd_M_madeIn_198 (by decide +kernel) (Nat.le_of_ble_eq_true rfl) ?_
      refine wq_goto_ok (tgt := 71) h0 kd_M_madeIn_201 (by decide) ?_
      exact wq_can_ok (hKc 71 (by decide))
    have hb_102 : wq_Snd p l e ({ frames := 3, cells := 0, slots := 0, locals := 73 } : Room) s m args below meth c 7 cs D kz_cl A (wq_G0 ad w) (wq_Q cs D kz_cl A (wq_G0 ad w) rt xt below s 0 0) 102 (kt_M_madeIn_102 rt xt K) := by
      refine wq_istore_ok h0 kd_M_madeIn_102 (Nat.le_of_ble_eq_true rfl) ?_
      refine wq_iconst_ok h0 kd_M_madeIn_104 (by decide +kernel) ?_
      refine wq_iload_ok h0 kd_M_madeIn_105 ?_
      refine wq_imul_ok h0 kd_M_madeIn_107 ?_
      refine wq_istore_ok h0 kd_M_madeIn_108 (Nat.le_of_ble_eq_true rfl) ?_
      exact wq_can_ok (hKc 110 (by decide))
    have hb_101 : wq_Snd p l e ({ frames := 3, cells := 0, slots := 0, locals := 73 } : Room) s m args below meth c 7 cs D kz_cl A (wq_G0 ad w) (wq_Q cs D kz_cl A (wq_G0 ad w) rt xt below s 0 0) 101 (kt_M_madeIn_101 rt xt K) := by
      refine wq_iconst_ok h0 kd_M_madeIn_101 (by decide +kernel) ?_
      exact hb_102
    have hb_80 : wq_Snd p l e ({ frames := 3, cells := 0, slots := 0, locals := 73 } : Room) s m args below meth c 7 cs D kz_cl A (wq_G0 ad w) (wq_Q cs D kz_cl A (wq_G0 ad w) rt xt below s 0 0) 80 (kh_M_madeIn_80 rt xt K) := by
      refine wq_iload_ok h0 kd_M_madeIn_80 ?_
      refine wq_bipush_ok h0 kd_M_madeIn_82 (by decide +kernel) ?_
      refine wq_icmp_ge_ok (tgt := 198) h0 kd_M_madeIn_84 (by decide) ?_ ?_
      · exact hb_198
      refine wq_aload_n_ok h0 kd_M_madeIn_87 rfl ?_
      refine wq_get_ok (wq_getOK h0 hts ki_M hown hK (ci := 9) rfl 33 (Nat.le_of_ble_eq_true rfl) kw_1015 rfl) kd_M_madeIn_88 ?_
      refine wq_iload_ok h0 kd_M_madeIn_91 ?_
      refine wq_zald_ok h0 hK kd_M_madeIn_93 ?_
      refine wq_if_ne_ok (tgt := 101) h0 kd_M_madeIn_94 (by decide) ?_ ?_
      · exact hb_101
      refine wq_iconst_ok h0 kd_M_madeIn_97 (by decide +kernel) ?_
      refine wq_goto_ok (tgt := 102) h0 kd_M_madeIn_98 (by decide) ?_
      exact hb_102
    have hb_192 : wq_Snd p l e ({ frames := 3, cells := 0, slots := 0, locals := 73 } : Room) s m args below meth c 7 cs D kz_cl A (wq_G0 ad w) (wq_Q cs D kz_cl A (wq_G0 ad w) rt xt below s 0 0) 192 (kt_M_madeIn_192 rt xt K) := by
      refine wq_iinc_ok h0 kd_M_madeIn_192 (by decide +kernel) (Nat.le_of_ble_eq_true rfl) ?_
      refine wq_goto_ok (tgt := 80) h0 kd_M_madeIn_195 (by decide) ?_
      exact wq_can_ok (hKc 80 (by decide))
    have hb_160 : wq_Snd p l e ({ frames := 3, cells := 0, slots := 0, locals := 73 } : Room) s m args below meth c 7 cs D kz_cl A (wq_G0 ad w) (wq_Q cs D kz_cl A (wq_G0 ad w) rt xt below s 0 0) 160 (kt_M_madeIn_160 rt xt K) := by
      refine wq_iload_ok h0 kd_M_madeIn_160 ?_
      refine wq_if_eq_ok (tgt := 192) h0 kd_M_madeIn_162 (by decide) ?_ ?_
      · exact hb_192
      refine wq_aload_n_ok h0 kd_M_madeIn_165 rfl ?_
      refine wq_get_ok (wq_getOK h0 hts ki_M hown hK (ci := 9) rfl 34 (Nat.le_of_ble_eq_true rfl) kw_1016 rfl) kd_M_madeIn_166 ?_
      refine wq_iload_ok h0 kd_M_madeIn_169 ?_
      refine wq_aload_n_ok h0 kd_M_madeIn_171 rfl ?_
      refine wq_iload_ok h0 kd_M_madeIn_172 ?_
      refine wq_aload_n_ok h0 kd_M_madeIn_174 rfl ?_
      refine wq_get_ok (wq_getOK h0 hts ki_M hown hK (ci := 9) rfl 31 (Nat.le_of_ble_eq_true rfl) kw_1013 rfl) kd_M_madeIn_175 ?_
      refine wq_iload_n_ok h0 kd_M_madeIn_178 rfl ?_
      refine wq_iald_ok h0 hK kd_M_madeIn_179 ?_
      refine wq_call_ok hA (wq_runV (ci := 9) ⟨h0.1, h0.2, hml, hown, hts⟩ (kv_M_isMade hl) ⟨(wq_cB hts kw_G kw_1287 kw_10 kw_1284 ⟨by decide +kernel, by decide +kernel, by decide +kernel⟩ rfl rfl ⟨Nat.le_of_ble_eq_true rfl, Nat.le_of_ble_eq_true rfl⟩), hts _ kw_1286, hts _ kw_s38⟩ rfl rfl hK hZ hN hA kd_M_madeIn_180) (wq_xout_ok hnt hlk) ?_
      refine wq_zast_ok h0 hK kd_M_madeIn_183 ?_
      refine wq_aload_n_ok h0 kd_M_madeIn_184 rfl ?_
      refine wq_get_ok (wq_getOK h0 hts ki_M hown hK (ci := 9) rfl 33 (Nat.le_of_ble_eq_true rfl) kw_1015 rfl) kd_M_madeIn_185 ?_
      refine wq_iload_ok h0 kd_M_madeIn_188 ?_
      refine wq_iconst_ok h0 kd_M_madeIn_190 (by decide +kernel) ?_
      refine wq_zast_ok h0 hK kd_M_madeIn_191 ?_
      exact hb_192
    have hb_152 : wq_Snd p l e ({ frames := 3, cells := 0, slots := 0, locals := 73 } : Room) s m args below meth c 7 cs D kz_cl A (wq_G0 ad w) (wq_Q cs D kz_cl A (wq_G0 ad w) rt xt below s 0 0) 152 (kt_M_madeIn_152 rt xt K) := by
      refine wq_istore_ok h0 kd_M_madeIn_152 (Nat.le_of_ble_eq_true rfl) ?_
      refine wq_iinc_ok h0 kd_M_madeIn_154 (by decide +kernel) (Nat.le_of_ble_eq_true rfl) ?_
      refine wq_goto_ok (tgt := 110) h0 kd_M_madeIn_157 (by decide) ?_
      exact wq_can_ok (hKc 110 (by decide))
    have hb_151 : wq_Snd p l e ({ frames := 3, cells := 0, slots := 0, locals := 73 } : Room) s m args below meth c 7 cs D kz_cl A (wq_G0 ad w) (wq_Q cs D kz_cl A (wq_G0 ad w) rt xt below s 0 0) 151 (kt_M_madeIn_151 rt xt K) := by
      refine wq_iconst_ok h0 kd_M_madeIn_151 (by decide +kernel) ?_
      exact hb_152
    have hb_110 : wq_Snd p l e ({ frames := 3, cells := 0, slots := 0, locals := 73 } : Room) s m args below meth c 7 cs D kz_cl A (wq_G0 ad w) (wq_Q cs D kz_cl A (wq_G0 ad w) rt xt below s 0 0) 110 (kh_M_madeIn_110 rt xt K) := by
      refine wq_iload_ok h0 kd_M_madeIn_110 ?_
      refine wq_iconst_ok h0 kd_M_madeIn_112 (by decide +kernel) ?_
      refine wq_iload_ok h0 kd_M_madeIn_113 ?_
      refine wq_imul_ok h0 kd_M_madeIn_115 ?_
      refine wq_aload_n_ok h0 kd_M_madeIn_116 rfl ?_
      refine wq_get_ok (wq_getOK h0 hts ki_M hown hK (ci := 9) rfl 27 (Nat.le_of_ble_eq_true rfl) kw_1009 rfl) kd_M_madeIn_117 ?_
      refine wq_iload_ok h0 kd_M_madeIn_120 ?_
      refine wq_iald_ok h0 hK kd_M_madeIn_122 ?_
      refine wq_iadd_ok h0 kd_M_madeIn_123 ?_
      refine wq_icmp_ge_ok (tgt := 160) h0 kd_M_madeIn_124 (by decide) ?_ ?_
      · exact hb_160
      refine wq_iload_ok h0 kd_M_madeIn_127 ?_
      refine wq_if_eq_ok (tgt := 151) h0 kd_M_madeIn_129 (by decide) ?_ ?_
      · exact hb_151
      refine wq_aload_n_ok h0 kd_M_madeIn_132 rfl ?_
      refine wq_get_ok (wq_getOK h0 hts ki_M hown hK (ci := 9) rfl 33 (Nat.le_of_ble_eq_true rfl) kw_1015 rfl) kd_M_madeIn_133 ?_
      refine wq_aload_n_ok h0 kd_M_madeIn_136 rfl ?_
      refine wq_get_ok (wq_getOK h0 hts ki_M hown hK (ci := 9) rfl 28 (Nat.le_of_ble_eq_true rfl) kw_1010 rfl) kd_M_madeIn_137 ?_
      refine wq_iload_ok h0 kd_M_madeIn_140 ?_
      refine wq_iald_ok h0 hK kd_M_madeIn_142 ?_
      refine wq_zald_ok h0 hK kd_M_madeIn_143 ?_
      refine wq_if_eq_ok (tgt := 151) h0 kd_M_madeIn_144 (by decide) ?_ ?_
      · exact hb_151
      refine wq_iconst_ok h0 kd_M_madeIn_147 (by decide +kernel) ?_
      refine wq_goto_ok (tgt := 152) h0 kd_M_madeIn_148 (by decide) ?_
      exact hb_152
    have hb_37 : wq_Snd p l e ({ frames := 3, cells := 0, slots := 0, locals := 73 } : Room) s m args below meth c 7 cs D kz_cl A (wq_G0 ad w) (wq_Q cs D kz_cl A (wq_G0 ad w) rt xt below s 0 0) 37 (kt_M_madeIn_37 rt xt K) := by
      refine wq_iconst_ok h0 kd_M_madeIn_37 (by decide +kernel) ?_
      refine wq_istore_n_ok h0 kd_M_madeIn_38 rfl (Nat.le_of_ble_eq_true rfl) ?_
      exact wq_can_ok (hKc 39 (by decide))
    have hb_25 : wq_Snd p l e ({ frames := 3, cells := 0, slots := 0, locals := 73 } : Room) s m args below meth c 7 cs D kz_cl A (wq_G0 ad w) (wq_Q cs D kz_cl A (wq_G0 ad w) rt xt below s 0 0) 25 (kt_M_madeIn_25 rt xt K) := by
      refine wq_put_ok (wq_putOK h0 hts ki_M ka_M kb_M kn_M hown hK (ci := 9) rfl 0 (Nat.le_of_ble_eq_true rfl) kw_982 rfl (Or.inl rfl) wq_okI) kd_M_madeIn_25 ?_
      refine wq_aload_n_ok h0 kd_M_madeIn_28 rfl ?_
      refine wq_get_ok (wq_getOK h0 hts ki_M hown hK (ci := 9) rfl 0 (Nat.le_of_ble_eq_true rfl) kw_982 rfl) kd_M_madeIn_29 ?_
      refine wq_if_le_ok (tgt := 37) h0 kd_M_madeIn_32 (by decide) ?_ ?_
      · exact hb_37
      refine wq_iconst_ok h0 kd_M_madeIn_35 (by decide +kernel) ?_
      exact wq_zreturn_ok h0 hr hlk kd_M_madeIn_36
    have hb_24 : wq_Snd p l e ({ frames := 3, cells := 0, slots := 0, locals := 73 } : Room) s m args below meth c 7 cs D kz_cl A (wq_G0 ad w) (wq_Q cs D kz_cl A (wq_G0 ad w) rt xt below s 0 0) 24 (kt_M_madeIn_24 rt xt K) := by
      refine wq_iconst_ok h0 kd_M_madeIn_24 (by decide +kernel) ?_
      exact hb_25
    have hb_0 : wq_Snd p l e ({ frames := 3, cells := 0, slots := 0, locals := 73 } : Room) s m args below meth c 7 cs D kz_cl A (wq_G0 ad w) (wq_Q cs D kz_cl A (wq_G0 ad w) rt xt below s 0 0) 0 (kt_M_madeIn_0 rt xt K) := by
      refine wq_aload_n_ok h0 kd_M_madeIn_0 rfl ?_
      refine wq_iload_n_ok h0 kd_M_madeIn_1 rfl ?_
      refine wq_iconst_ok h0 kd_M_madeIn_2 (by decide +kernel) ?_
      refine wq_bipush_ok h0 kd_M_madeIn_3 (by decide +kernel) ?_
      refine wq_call_ok hA (wq_runS ⟨h0.1, h0.2, hml, hown, hts⟩ (kv_M_within hl) ⟨(wq_cB hts kw_G kw_1209 kw_10 kw_1207 ⟨by decide +kernel, by decide +kernel, by decide +kernel⟩ rfl rfl ⟨Nat.le_of_ble_eq_true rfl, Nat.le_of_ble_eq_true rfl⟩), hts _ kw_1208⟩ hK hZ hN hA kd_M_madeIn_5) (wq_xout_ok hnt hlk) ?_
      refine wq_if_eq_ok (tgt := 24) h0 kd_M_madeIn_8 (by decide) ?_ ?_
      · exact hb_24
      refine wq_iload_n_ok h0 kd_M_madeIn_11 rfl ?_
      refine wq_iconst_ok h0 kd_M_madeIn_12 (by decide +kernel) ?_
      refine wq_iconst_ok h0 kd_M_madeIn_13 (by decide +kernel) ?_
      refine wq_call_ok hA (wq_runS ⟨h0.1, h0.2, hml, hown, hts⟩ (kv_M_within hl) ⟨(wq_cB hts kw_G kw_1209 kw_10 kw_1207 ⟨by decide +kernel, by decide +kernel, by decide +kernel⟩ rfl rfl ⟨Nat.le_of_ble_eq_true rfl, Nat.le_of_ble_eq_true rfl⟩), hts _ kw_1208⟩ hK hZ hN hA kd_M_madeIn_14) (wq_xout_ok hnt hlk) ?_
      refine wq_if_eq_ok (tgt := 24) h0 kd_M_madeIn_17 (by decide) ?_ ?_
      · exact hb_24
      refine wq_iconst_ok h0 kd_M_madeIn_20 (by decide +kernel) ?_
      refine wq_goto_ok (tgt := 25) h0 kd_M_madeIn_21 (by decide) ?_
      exact hb_25
    refine ⟨?_, hb_0⟩
    exact List.forall_mem_cons.mpr ⟨hb_39, List.forall_mem_cons.mpr ⟨hb_71, List.forall_mem_cons.mpr ⟨hb_80, List.forall_mem_cons.mpr ⟨hb_110, fun _ h => absurd h List.not_mem_nil⟩⟩⟩⟩
  have hun : ∀ (n pc : Nat), pc ∈ [39, 71, 80, 110] → wq_Snd p l e ({ frames := 3, cells := 0, slots := 0, locals := 73 } : Room) s m args below meth c 7 cs D kz_cl A (wq_G0 ad w) (wq_Q cs D kz_cl A (wq_G0 ad w) rt xt below s 0 0) pc (ku_M_madeIn rt xt n pc) := by
    intro n
    induction n with
    | zero => intro pc _ L S w9 n1 n2 h; exact h.elim
    | succ n ih => intro pc hpc; exact (hall (ku_M_madeIn rt xt n) ih).1 pc hpc
  exact (hall (ku_M_madeIn rt xt 1000000000000) (hun 1000000000000)).2 _ _ _ _ _ (wq_sp_t hsp)
set_option maxRecDepth 100000 in
set_option maxHeartbeats 4000000 in
theorem kv_M_isDeclaration {l : Launch} (hl : l.stackTraces = false) : wq_Vld l kz_cl ky_M_isDeclaration kw_T ({ frames := 0, cells := 0, slots := 0, locals := 0 }) wq_G0 ks_M_isDeclaration 0 0 := by
  refine wq_method (cc := kc_M_isDeclaration) (maxL := 2) (ret := (some .boolean)) (by decide) kw_1300 (fun _ _ => rfl) wq_sp_sz ?_
  intro p e s m args below meth c cs D ad as w rt xt hF hnt hsp
  obtain ⟨h0, hr, hts, hown, hlk, hnm, hml, hK, hZ, hN, hA⟩ := hF
  have hown : s.vm.findClass "BorderDeskModel" = some m.cls := hown
  obtain ⟨A, hAe⟩ : ∃ A, A = wq_A ad w s.heap.size := ⟨_, rfl⟩
  rw [← hAe] at hZ hA ⊢
  have hb_17 : wq_Snd p l e ({ frames := 0, cells := 0, slots := 0, locals := 0 } : Room) s m args below meth c 2 cs D kz_cl A (wq_G0 ad w) (wq_Q cs D kz_cl A (wq_G0 ad w) rt xt below s 0 0) 17 (kt_M_isDeclaration_17 rt xt) := by
    exact wq_zreturn_ok h0 hr hlk kd_M_isDeclaration_17
  have hb_16 : wq_Snd p l e ({ frames := 0, cells := 0, slots := 0, locals := 0 } : Room) s m args below meth c 2 cs D kz_cl A (wq_G0 ad w) (wq_Q cs D kz_cl A (wq_G0 ad w) rt xt below s 0 0) 16 (kt_M_isDeclaration_16 rt xt) := by
    refine wq_iconst_ok h0 kd_M_isDeclaration_16 (by decide +kernel) ?_
    exact hb_17
  have hb_0 : wq_Snd p l e ({ frames := 0, cells := 0, slots := 0, locals := 0 } : Room) s m args below meth c 2 cs D kz_cl A (wq_G0 ad w) (wq_Q cs D kz_cl A (wq_G0 ad w) rt xt below s 0 0) 0 (kt_M_isDeclaration_0 rt xt) := by
    refine wq_iload_n_ok h0 kd_M_isDeclaration_0 rfl ?_
    refine wq_if_lt_ok (tgt := 16) h0 kd_M_isDeclaration_1 (by decide) ?_ ?_
    · exact hb_16
    refine wq_iload_n_ok h0 kd_M_isDeclaration_4 rfl ?_
    refine wq_aload_n_ok h0 kd_M_isDeclaration_5 rfl ?_
    refine wq_get_ok (wq_getOK h0 hts ki_M hown hK (ci := 9) rfl 35 (Nat.le_of_ble_eq_true rfl) kw_1017 rfl) kd_M_isDeclaration_6 ?_
    refine wq_icmp_ge_ok (tgt := 16) h0 kd_M_isDeclaration_9 (by decide) ?_ ?_
    · exact hb_16
    refine wq_iconst_ok h0 kd_M_isDeclaration_12 (by decide +kernel) ?_
    refine wq_goto_ok (tgt := 17) h0 kd_M_isDeclaration_13 (by decide) ?_
    exact hb_17
  exact hb_0 _ _ _ _ _ (wq_sp_t hsp)
set_option maxRecDepth 100000 in
set_option maxHeartbeats 4000000 in
theorem kv_M_isLine {l : Launch} (hl : l.stackTraces = false) : wq_Vld l kz_cl ky_M_isLine kw_T ({ frames := 1, cells := 0, slots := 0, locals := 21 }) wq_G0 ks_M_isLine 0 0 := by
  refine wq_method (cc := kc_M_isLine) (maxL := 3) (ret := (some .boolean)) (by decide) kw_1317 (fun _ _ => rfl) wq_sp_sz ?_
  intro p e s m args below meth c cs D ad as w rt xt hF hnt hsp
  obtain ⟨h0, hr, hts, hown, hlk, hnm, hml, hK, hZ, hN, hA⟩ := hF
  have hown : s.vm.findClass "BorderDeskModel" = some m.cls := hown
  obtain ⟨A, hAe⟩ : ∃ A, A = wq_A ad w s.heap.size := ⟨_, rfl⟩
  rw [← hAe] at hZ hA ⊢
  have hb_27 : wq_Snd p l e ({ frames := 1, cells := 0, slots := 0, locals := 21 } : Room) s m args below meth c 3 cs D kz_cl A (wq_G0 ad w) (wq_Q cs D kz_cl A (wq_G0 ad w) rt xt below s 0 0) 27 (kt_M_isLine_27 rt xt) := by
    exact wq_zreturn_ok h0 hr hlk kd_M_isLine_27
  have hb_26 : wq_Snd p l e ({ frames := 1, cells := 0, slots := 0, locals := 21 } : Room) s m args below meth c 3 cs D kz_cl A (wq_G0 ad w) (wq_Q cs D kz_cl A (wq_G0 ad w) rt xt below s 0 0) 26 (kt_M_isLine_26 rt xt) := by
    refine wq_iconst_ok h0 kd_M_isLine_26 (by decide +kernel) ?_
    exact hb_27
  have hb_0 : wq_Snd p l e ({ frames := 1, cells := 0, slots := 0, locals := 21 } : Room) s m args below meth c 3 cs D kz_cl A (wq_G0 ad w) (wq_Q cs D kz_cl A (wq_G0 ad w) rt xt below s 0 0) 0 (kt_M_isLine_0 rt xt) := by
    refine wq_aload_n_ok h0 kd_M_isLine_0 rfl ?_
    refine wq_iload_n_ok h0 kd_M_isLine_1 rfl ?_
    refine wq_call_ok hA (wq_runV (ci := 9) ⟨h0.1, h0.2, hml, hown, hts⟩ (kv_M_isDeclaration hl) ⟨(wq_cB hts kw_G kw_1300 kw_10 kw_1297 ⟨by decide +kernel, by decide +kernel, by decide +kernel⟩ rfl rfl ⟨Nat.le_of_ble_eq_true rfl, Nat.le_of_ble_eq_true rfl⟩), hts _ kw_1299, hts _ kw_s39⟩ rfl rfl hK hZ hN hA kd_M_isLine_2) (wq_xout_ok hnt hlk) ?_
    refine wq_if_eq_ok (tgt := 26) h0 kd_M_isLine_5 (by decide) ?_ ?_
    · exact hb_26
    refine wq_iload_n_ok h0 kd_M_isLine_8 rfl ?_
    refine wq_if_lt_ok (tgt := 26) h0 kd_M_isLine_9 (by decide) ?_ ?_
    · exact hb_26
    refine wq_iload_n_ok h0 kd_M_isLine_12 rfl ?_
    refine wq_aload_n_ok h0 kd_M_isLine_13 rfl ?_
    refine wq_get_ok (wq_getOK h0 hts ki_M hown hK (ci := 9) rfl 38 (Nat.le_of_ble_eq_true rfl) kw_1020 rfl) kd_M_isLine_14 ?_
    refine wq_iload_n_ok h0 kd_M_isLine_17 rfl ?_
    refine wq_iald_ok h0 hK kd_M_isLine_18 ?_
    refine wq_icmp_ge_ok (tgt := 26) h0 kd_M_isLine_19 (by decide) ?_ ?_
    · exact hb_26
    refine wq_iconst_ok h0 kd_M_isLine_22 (by decide +kernel) ?_
    refine wq_goto_ok (tgt := 27) h0 kd_M_isLine_23 (by decide) ?_
    exact hb_27
  exact hb_0 _ _ _ _ _ (wq_sp_t hsp)
set_option maxRecDepth 100000 in
set_option maxHeartbeats 4000000 in
theorem kv_M_declare {l : Launch} (hl : l.stackTraces = false) : wq_Vld l kz_cl ky_M_declare kw_T ({ frames := 1, cells := 0, slots := 0, locals := 22 }) wq_G0 ks_M_declare 0 0 := by
  refine wq_method (cc := kc_M_declare) (maxL := 3) (ret := (some .int)) (by decide) kw_1292 (fun _ _ => rfl) wq_sp_sz ?_
  intro p e s m args below meth c cs D ad as w rt xt hF hnt hsp
  obtain ⟨h0, hr, hts, hown, hlk, hnm, hml, hK, hZ, hN, hA⟩ := hF
  have hown : s.vm.findClass "BorderDeskModel" = some m.cls := hown
  obtain ⟨A, hAe⟩ : ∃ A, A = wq_A ad w s.heap.size := ⟨_, rfl⟩
  rw [← hAe] at hZ hA ⊢
  have hb_53 : wq_Snd p l e ({ frames := 1, cells := 0, slots := 0, locals := 22 } : Room) s m args below meth c 3 cs D kz_cl A (wq_G0 ad w) (wq_Q cs D kz_cl A (wq_G0 ad w) rt xt below s 0 0) 53 (kt_M_declare_53 rt xt) := by
    refine wq_aload_n_ok h0 kd_M_declare_53 rfl ?_
    refine wq_get_ok (wq_getOK h0 hts ki_M hown hK (ci := 9) rfl 36 (Nat.le_of_ble_eq_true rfl) kw_1018 rfl) kd_M_declare_54 ?_
    refine wq_aload_n_ok h0 kd_M_declare_57 rfl ?_
    refine wq_get_ok (wq_getOK h0 hts ki_M hown hK (ci := 9) rfl 35 (Nat.le_of_ble_eq_true rfl) kw_1017 rfl) kd_M_declare_58 ?_
    refine wq_iload_n_ok h0 kd_M_declare_61 rfl ?_
    refine wq_iast_ok h0 hK kd_M_declare_62 ?_
    refine wq_aload_n_ok h0 kd_M_declare_63 rfl ?_
    refine wq_get_ok (wq_getOK h0 hts ki_M hown hK (ci := 9) rfl 37 (Nat.le_of_ble_eq_true rfl) kw_1019 rfl) kd_M_declare_64 ?_
    refine wq_aload_n_ok h0 kd_M_declare_67 rfl ?_
    refine wq_get_ok (wq_getOK h0 hts ki_M hown hK (ci := 9) rfl 35 (Nat.le_of_ble_eq_true rfl) kw_1017 rfl) kd_M_declare_68 ?_
    refine wq_iload_n_ok h0 kd_M_declare_71 rfl ?_
    refine wq_iast_ok h0 hK kd_M_declare_72 ?_
    refine wq_aload_n_ok h0 kd_M_declare_73 rfl ?_
    refine wq_dup_ok h0 kd_M_declare_74 ?_
    refine wq_get_ok (wq_getOK h0 hts ki_M hown hK (ci := 9) rfl 35 (Nat.le_of_ble_eq_true rfl) kw_1017 rfl) kd_M_declare_75 ?_
    refine wq_iconst_ok h0 kd_M_declare_78 (by decide +kernel) ?_
    refine wq_iadd_ok h0 kd_M_declare_79 ?_
    refine wq_put_ok (wq_putOK h0 hts ki_M ka_M kb_M kn_M hown hK (ci := 9) rfl 35 (Nat.le_of_ble_eq_true rfl) kw_1017 rfl (Or.inl rfl) wq_okI) kd_M_declare_80 ?_
    refine wq_aload_n_ok h0 kd_M_declare_83 rfl ?_
    refine wq_get_ok (wq_getOK h0 hts ki_M hown hK (ci := 9) rfl 35 (Nat.le_of_ble_eq_true rfl) kw_1017 rfl) kd_M_declare_84 ?_
    refine wq_iconst_ok h0 kd_M_declare_87 (by decide +kernel) ?_
    refine wq_isub_ok h0 kd_M_declare_88 ?_
    exact wq_ireturn_ok h0 hr hlk kd_M_declare_89
  have hb_41 : wq_Snd p l e ({ frames := 1, cells := 0, slots := 0, locals := 22 } : Room) s m args below meth c 3 cs D kz_cl A (wq_G0 ad w) (wq_Q cs D kz_cl A (wq_G0 ad w) rt xt below s 0 0) 41 (kt_M_declare_41 rt xt) := by
    refine wq_put_ok (wq_putOK h0 hts ki_M ka_M kb_M kn_M hown hK (ci := 9) rfl 0 (Nat.le_of_ble_eq_true rfl) kw_982 rfl (Or.inl rfl) wq_okI) kd_M_declare_41 ?_
    refine wq_aload_n_ok h0 kd_M_declare_44 rfl ?_
    refine wq_get_ok (wq_getOK h0 hts ki_M hown hK (ci := 9) rfl 0 (Nat.le_of_ble_eq_true rfl) kw_982 rfl) kd_M_declare_45 ?_
    refine wq_if_le_ok (tgt := 53) h0 kd_M_declare_48 (by decide) ?_ ?_
    · exact hb_53
    refine wq_iconst_ok h0 kd_M_declare_51 (by decide +kernel) ?_
    exact wq_ireturn_ok h0 hr hlk kd_M_declare_52
  have hb_23 : wq_Snd p l e ({ frames := 1, cells := 0, slots := 0, locals := 22 } : Room) s m args below meth c 3 cs D kz_cl A (wq_G0 ad w) (wq_Q cs D kz_cl A (wq_G0 ad w) rt xt below s 0 0) 23 (kt_M_declare_23 rt xt) := by
    refine wq_iconst_ok h0 kd_M_declare_23 (by decide +kernel) ?_
    refine wq_goto_ok (tgt := 41) h0 kd_M_declare_24 (by decide) ?_
    exact hb_41
  have hb_40 : wq_Snd p l e ({ frames := 1, cells := 0, slots := 0, locals := 22 } : Room) s m args below meth c 3 cs D kz_cl A (wq_G0 ad w) (wq_Q cs D kz_cl A (wq_G0 ad w) rt xt below s 0 0) 40 (kt_M_declare_40 rt xt) := by
    refine wq_iconst_ok h0 kd_M_declare_40 (by decide +kernel) ?_
    exact hb_41
  have hb_27 : wq_Snd p l e ({ frames := 1, cells := 0, slots := 0, locals := 22 } : Room) s m args below meth c 3 cs D kz_cl A (wq_G0 ad w) (wq_Q cs D kz_cl A (wq_G0 ad w) rt xt below s 0 0) 27 (kt_M_declare_27 rt xt) := by
    refine wq_aload_n_ok h0 kd_M_declare_27 rfl ?_
    refine wq_get_ok (wq_getOK h0 hts ki_M hown hK (ci := 9) rfl 35 (Nat.le_of_ble_eq_true rfl) kw_1017 rfl) kd_M_declare_28 ?_
    refine wq_bipush_ok h0 kd_M_declare_31 (by decide +kernel) ?_
    refine wq_icmp_ne_ok (tgt := 40) h0 kd_M_declare_33 (by decide) ?_ ?_
    · exact hb_40
    refine wq_iconst_ok h0 kd_M_declare_36 (by decide +kernel) ?_
    refine wq_goto_ok (tgt := 41) h0 kd_M_declare_37 (by decide) ?_
    exact hb_41
  have hb_0 : wq_Snd p l e ({ frames := 1, cells := 0, slots := 0, locals := 22 } : Room) s m args below meth c 3 cs D kz_cl A (wq_G0 ad w) (wq_Q cs D kz_cl A (wq_G0 ad w) rt xt below s 0 0) 0 (kt_M_declare_0 rt xt) := by
    refine wq_aload_n_ok h0 kd_M_declare_0 rfl ?_
    refine wq_iload_n_ok h0 kd_M_declare_1 rfl ?_
    refine wq_iconst_ok h0 kd_M_declare_2 (by decide +kernel) ?_
    refine wq_sipush_ok h0 kd_M_declare_3 (by decide +kernel) ?_
    refine wq_call_ok hA (wq_runS ⟨h0.1, h0.2, hml, hown, hts⟩ (kv_M_within hl) ⟨(wq_cB hts kw_G kw_1209 kw_10 kw_1207 ⟨by decide +kernel, by decide +kernel, by decide +kernel⟩ rfl rfl ⟨Nat.le_of_ble_eq_true rfl, Nat.le_of_ble_eq_true rfl⟩), hts _ kw_1208⟩ hK hZ hN hA kd_M_declare_6) (wq_xout_ok hnt hlk) ?_
    refine wq_if_eq_ok (tgt := 23) h0 kd_M_declare_9 (by decide) ?_ ?_
    · exact hb_23
    refine wq_iload_n_ok h0 kd_M_declare_12 rfl ?_
    refine wq_iconst_ok h0 kd_M_declare_13 (by decide +kernel) ?_
    refine wq_sipush_ok h0 kd_M_declare_14 (by decide +kernel) ?_
    refine wq_call_ok hA (wq_runS ⟨h0.1, h0.2, hml, hown, hts⟩ (kv_M_within hl) ⟨(wq_cB hts kw_G kw_1209 kw_10 kw_1207 ⟨by decide +kernel, by decide +kernel, by decide +kernel⟩ rfl rfl ⟨Nat.le_of_ble_eq_true rfl, Nat.le_of_ble_eq_true rfl⟩), hts _ kw_1208⟩ hK hZ hN hA kd_M_declare_17) (wq_xout_ok hnt hlk) ?_
    refine wq_if_ne_ok (tgt := 27) h0 kd_M_declare_20 (by decide) ?_ ?_
    · exact hb_27
    exact hb_23
  exact hb_0 _ _ _ _ _ (wq_sp_t hsp)
set_option maxRecDepth 100000 in
set_option maxHeartbeats 4000000 in
theorem kv_M_isField {l : Launch} (hl : l.stackTraces = false) : wq_Vld l kz_cl ky_M_isField kw_T ({ frames := 0, cells := 0, slots := 0, locals := 0 }) wq_G0 ks_M_isField 0 0 := by
  refine wq_method (cc := kc_M_isField) (maxL := 2) (ret := (some .boolean)) (by decide) kw_1303 (fun _ _ => rfl) wq_sp_sz ?_
  intro p e s m args below meth c cs D ad as w rt xt hF hnt hsp
  obtain ⟨h0, hr, hts, hown, hlk, hnm, hml, hK, hZ, hN, hA⟩ := hF
  have hown : s.vm.findClass "BorderDeskModel" = some m.cls := hown
  obtain ⟨A, hAe⟩ : ∃ A, A = wq_A ad w s.heap.size := ⟨_, rfl⟩
  rw [← hAe] at hZ hA ⊢
  have hb_50 : wq_Snd p l e ({ frames := 0, cells := 0, slots := 0, locals := 0 } : Room) s m args below meth c 2 cs D kz_cl A (wq_G0 ad w) (wq_Q cs D kz_cl A (wq_G0 ad w) rt xt below s 0 0) 50 (kt_M_isField_50 rt xt) := by
    exact wq_zreturn_ok h0 hr hlk kd_M_isField_50
  have hb_49 : wq_Snd p l e ({ frames := 0, cells := 0, slots := 0, locals := 0 } : Room) s m args below meth c 2 cs D kz_cl A (wq_G0 ad w) (wq_Q cs D kz_cl A (wq_G0 ad w) rt xt below s 0 0) 49 (kt_M_isField_49 rt xt) := by
    refine wq_iconst_ok h0 kd_M_isField_49 (by decide +kernel) ?_
    exact hb_50
  have hb_42 : wq_Snd p l e ({ frames := 0, cells := 0, slots := 0, locals := 0 } : Room) s m args below meth c 2 cs D kz_cl A (wq_G0 ad w) (wq_Q cs D kz_cl A (wq_G0 ad w) rt xt below s 0 0) 42 (kt_M_isField_42 rt xt) := by
    refine wq_icmp_gt_ok (tgt := 49) h0 kd_M_isField_42 (by decide) ?_ ?_
    · exact hb_49
    refine wq_iconst_ok h0 kd_M_isField_45 (by decide +kernel) ?_
    refine wq_goto_ok (tgt := 50) h0 kd_M_isField_46 (by decide) ?_
    exact hb_50
  have hb_39 : wq_Snd p l e ({ frames := 0, cells := 0, slots := 0, locals := 0 } : Room) s m args below meth c 2 cs D kz_cl A (wq_G0 ad w) (wq_Q cs D kz_cl A (wq_G0 ad w) rt xt below s 0 0) 39 (kt_M_isField_39 rt xt) := by
    refine wq_ldcw_ok (v := 100000000) h0 hown (hts _ kw_1304) kd_M_isField_39 ?_
    exact hb_42
  have hb_24 : wq_Snd p l e ({ frames := 0, cells := 0, slots := 0, locals := 0 } : Room) s m args below meth c 2 cs D kz_cl A (wq_G0 ad w) (wq_Q cs D kz_cl A (wq_G0 ad w) rt xt below s 0 0) 24 (kt_M_isField_24 rt xt) := by
    refine wq_iload_n_ok h0 kd_M_isField_24 rfl ?_
    refine wq_if_lt_ok (tgt := 49) h0 kd_M_isField_25 (by decide) ?_ ?_
    · exact hb_49
    refine wq_iload_n_ok h0 kd_M_isField_28 rfl ?_
    refine wq_iload_n_ok h0 kd_M_isField_29 rfl ?_
    refine wq_iconst_ok h0 kd_M_isField_30 (by decide +kernel) ?_
    refine wq_icmp_ne_ok (tgt := 39) h0 kd_M_isField_31 (by decide) ?_ ?_
    · exact hb_39
    refine wq_ldc_ok (v := 1000000) h0 hown (hts _ kw_1267) kd_M_isField_34 ?_
    refine wq_goto_ok (tgt := 42) h0 kd_M_isField_36 (by decide) ?_
    exact hb_42
  have hb_20 : wq_Snd p l e ({ frames := 0, cells := 0, slots := 0, locals := 0 } : Room) s m args below meth c 2 cs D kz_cl A (wq_G0 ad w) (wq_Q cs D kz_cl A (wq_G0 ad w) rt xt below s 0 0) 20 (kt_M_isField_20 rt xt) := by
    refine wq_iconst_ok h0 kd_M_isField_20 (by decide +kernel) ?_
    refine wq_goto_ok (tgt := 50) h0 kd_M_isField_21 (by decide) ?_
    exact hb_50
  have hb_0 : wq_Snd p l e ({ frames := 0, cells := 0, slots := 0, locals := 0 } : Room) s m args below meth c 2 cs D kz_cl A (wq_G0 ad w) (wq_Q cs D kz_cl A (wq_G0 ad w) rt xt below s 0 0) 0 (kt_M_isField_0 rt xt) := by
    refine wq_iload_n_ok h0 kd_M_isField_0 rfl ?_
    refine wq_if_ne_ok (tgt := 24) h0 kd_M_isField_1 (by decide) ?_ ?_
    · exact hb_24
    refine wq_iload_n_ok h0 kd_M_isField_4 rfl ?_
    refine wq_iconst_ok h0 kd_M_isField_5 (by decide +kernel) ?_
    refine wq_icmp_lt_ok (tgt := 20) h0 kd_M_isField_6 (by decide) ?_ ?_
    · exact hb_20
    refine wq_iload_n_ok h0 kd_M_isField_9 rfl ?_
    refine wq_sipush_ok h0 kd_M_isField_10 (by decide +kernel) ?_
    refine wq_icmp_gt_ok (tgt := 20) h0 kd_M_isField_13 (by decide) ?_ ?_
    · exact hb_20
    refine wq_iconst_ok h0 kd_M_isField_16 (by decide +kernel) ?_
    refine wq_goto_ok (tgt := 50) h0 kd_M_isField_17 (by decide) ?_
    exact hb_50
  exact hb_0 _ _ _ _ _ (wq_sp_t hsp)
set_option maxRecDepth 100000 in
set_option maxHeartbeats 4000000 in
theorem kv_M_line {l : Launch} (hl : l.stackTraces = false) : wq_Vld l kz_cl ky_M_line kw_T ({ frames := 1, cells := 0, slots := 0, locals := 22 }) wq_G0 ks_M_line 0 0 := by
  refine wq_method (cc := kc_M_line) (maxL := 10) (ret := (some .int)) (by decide) kw_1296 (fun _ _ => rfl) wq_sp_sz ?_
  intro p e s m args below meth c cs D ad as w rt xt hF hnt hsp
  obtain ⟨h0, hr, hts, hown, hlk, hnm, hml, hK, hZ, hN, hA⟩ := hF
  have hown : s.vm.findClass "BorderDeskModel" = some m.cls := hown
  obtain ⟨A, hAe⟩ : ∃ A, A = wq_A ad w s.heap.size := ⟨_, rfl⟩
  rw [← hAe] at hZ hA ⊢
  have hb_108 : wq_Snd p l e ({ frames := 1, cells := 0, slots := 0, locals := 22 } : Room) s m args below meth c 10 cs D kz_cl A (wq_G0 ad w) (wq_Q cs D kz_cl A (wq_G0 ad w) rt xt below s 0 0) 108 (kt_M_line_108 rt xt) := by
    refine wq_iconst_ok h0 kd_M_line_108 (by decide +kernel) ?_
    refine wq_iload_n_ok h0 kd_M_line_109 rfl ?_
    refine wq_imul_ok h0 kd_M_line_110 ?_
    refine wq_aload_n_ok h0 kd_M_line_111 rfl ?_
    refine wq_get_ok (wq_getOK h0 hts ki_M hown hK (ci := 9) rfl 38 (Nat.le_of_ble_eq_true rfl) kw_1020 rfl) kd_M_line_112 ?_
    refine wq_iload_n_ok h0 kd_M_line_115 rfl ?_
    refine wq_iald_ok h0 hK kd_M_line_116 ?_
    refine wq_iadd_ok h0 kd_M_line_117 ?_
    refine wq_istore_ok h0 kd_M_line_118 (Nat.le_of_ble_eq_true rfl) ?_
    refine wq_aload_n_ok h0 kd_M_line_120 rfl ?_
    refine wq_get_ok (wq_getOK h0 hts ki_M hown hK (ci := 9) rfl 42 (Nat.le_of_ble_eq_true rfl) kw_1024 rfl) kd_M_line_121 ?_
    refine wq_iload_ok h0 kd_M_line_124 ?_
    refine wq_iload_n_ok h0 kd_M_line_126 rfl ?_
    refine wq_iast_ok h0 hK kd_M_line_127 ?_
    refine wq_aload_n_ok h0 kd_M_line_128 rfl ?_
    refine wq_get_ok (wq_getOK h0 hts ki_M hown hK (ci := 9) rfl 43 (Nat.le_of_ble_eq_true rfl) kw_1025 rfl) kd_M_line_129 ?_
    refine wq_iload_ok h0 kd_M_line_132 ?_
    refine wq_iload_n_ok h0 kd_M_line_134 rfl ?_
    refine wq_iast_ok h0 hK kd_M_line_135 ?_
    refine wq_aload_n_ok h0 kd_M_line_136 rfl ?_
    refine wq_get_ok (wq_getOK h0 hts ki_M hown hK (ci := 9) rfl 44 (Nat.le_of_ble_eq_true rfl) kw_1026 rfl) kd_M_line_137 ?_
    refine wq_iload_ok h0 kd_M_line_140 ?_
    refine wq_iload_ok h0 kd_M_line_142 ?_
    refine wq_zast_ok h0 hK kd_M_line_144 ?_
    refine wq_aload_n_ok h0 kd_M_line_145 rfl ?_
    refine wq_get_ok (wq_getOK h0 hts ki_M hown hK (ci := 9) rfl 45 (Nat.le_of_ble_eq_true rfl) kw_1027 rfl) kd_M_line_146 ?_
    refine wq_iconst_ok h0 kd_M_line_149 (by decide +kernel) ?_
    refine wq_iload_ok h0 kd_M_line_150 ?_
    refine wq_imul_ok h0 kd_M_line_152 ?_
    refine wq_iload_ok h0 kd_M_line_153 ?_
    refine wq_iast_ok h0 hK kd_M_line_155 ?_
    refine wq_aload_n_ok h0 kd_M_line_156 rfl ?_
    refine wq_get_ok (wq_getOK h0 hts ki_M hown hK (ci := 9) rfl 45 (Nat.le_of_ble_eq_true rfl) kw_1027 rfl) kd_M_line_157 ?_
    refine wq_iconst_ok h0 kd_M_line_160 (by decide +kernel) ?_
    refine wq_iload_ok h0 kd_M_line_161 ?_
    refine wq_imul_ok h0 kd_M_line_163 ?_
    refine wq_iconst_ok h0 kd_M_line_164 (by decide +kernel) ?_
    refine wq_iadd_ok h0 kd_M_line_165 ?_
    refine wq_iload_ok h0 kd_M_line_166 ?_
    refine wq_iast_ok h0 hK kd_M_line_168 ?_
    refine wq_aload_n_ok h0 kd_M_line_169 rfl ?_
    refine wq_get_ok (wq_getOK h0 hts ki_M hown hK (ci := 9) rfl 45 (Nat.le_of_ble_eq_true rfl) kw_1027 rfl) kd_M_line_170 ?_
    refine wq_iconst_ok h0 kd_M_line_173 (by decide +kernel) ?_
    refine wq_iload_ok h0 kd_M_line_174 ?_
    refine wq_imul_ok h0 kd_M_line_176 ?_
    refine wq_iconst_ok h0 kd_M_line_177 (by decide +kernel) ?_
    refine wq_iadd_ok h0 kd_M_line_178 ?_
    refine wq_iload_ok h0 kd_M_line_179 ?_
    refine wq_iast_ok h0 hK kd_M_line_181 ?_
    refine wq_aload_n_ok h0 kd_M_line_182 rfl ?_
    refine wq_get_ok (wq_getOK h0 hts ki_M hown hK (ci := 9) rfl 38 (Nat.le_of_ble_eq_true rfl) kw_1020 rfl) kd_M_line_183 ?_
    refine wq_iload_n_ok h0 kd_M_line_186 rfl ?_
    refine wq_dup2_ok h0 kd_M_line_187 ?_
    refine wq_iald_ok h0 hK kd_M_line_188 ?_
    refine wq_iconst_ok h0 kd_M_line_189 (by decide +kernel) ?_
    refine wq_iadd_ok h0 kd_M_line_190 ?_
    refine wq_iast_ok h0 hK kd_M_line_191 ?_
    refine wq_aload_n_ok h0 kd_M_line_192 rfl ?_
    refine wq_get_ok (wq_getOK h0 hts ki_M hown hK (ci := 9) rfl 38 (Nat.le_of_ble_eq_true rfl) kw_1020 rfl) kd_M_line_193 ?_
    refine wq_iload_n_ok h0 kd_M_line_196 rfl ?_
    refine wq_iald_ok h0 hK kd_M_line_197 ?_
    refine wq_iconst_ok h0 kd_M_line_198 (by decide +kernel) ?_
    refine wq_isub_ok h0 kd_M_line_199 ?_
    exact wq_ireturn_ok h0 hr hlk kd_M_line_200
  have hb_96 : wq_Snd p l e ({ frames := 1, cells := 0, slots := 0, locals := 22 } : Room) s m args below meth c 10 cs D kz_cl A (wq_G0 ad w) (wq_Q cs D kz_cl A (wq_G0 ad w) rt xt below s 0 0) 96 (kt_M_line_96 rt xt) := by
    refine wq_put_ok (wq_putOK h0 hts ki_M ka_M kb_M kn_M hown hK (ci := 9) rfl 0 (Nat.le_of_ble_eq_true rfl) kw_982 rfl (Or.inl rfl) wq_okI) kd_M_line_96 ?_
    refine wq_aload_n_ok h0 kd_M_line_99 rfl ?_
    refine wq_get_ok (wq_getOK h0 hts ki_M hown hK (ci := 9) rfl 0 (Nat.le_of_ble_eq_true rfl) kw_982 rfl) kd_M_line_100 ?_
    refine wq_if_le_ok (tgt := 108) h0 kd_M_line_103 (by decide) ?_ ?_
    · exact hb_108
    refine wq_iconst_ok h0 kd_M_line_106 (by decide +kernel) ?_
    exact wq_ireturn_ok h0 hr hlk kd_M_line_107
  have hb_91 : wq_Snd p l e ({ frames := 1, cells := 0, slots := 0, locals := 22 } : Room) s m args below meth c 10 cs D kz_cl A (wq_G0 ad w) (wq_Q cs D kz_cl A (wq_G0 ad w) rt xt below s 0 0) 91 (kt_M_line_91 rt xt) := by
    refine wq_iconst_ok h0 kd_M_line_91 (by decide +kernel) ?_
    refine wq_goto_ok (tgt := 96) h0 kd_M_line_92 (by decide) ?_
    exact hb_96
  have hb_95 : wq_Snd p l e ({ frames := 1, cells := 0, slots := 0, locals := 22 } : Room) s m args below meth c 10 cs D kz_cl A (wq_G0 ad w) (wq_Q cs D kz_cl A (wq_G0 ad w) rt xt below s 0 0) 95 (kt_M_line_95 rt xt) := by
    refine wq_iconst_ok h0 kd_M_line_95 (by decide +kernel) ?_
    exact hb_96
  have hb_72 : wq_Snd p l e ({ frames := 1, cells := 0, slots := 0, locals := 22 } : Room) s m args below meth c 10 cs D kz_cl A (wq_G0 ad w) (wq_Q cs D kz_cl A (wq_G0 ad w) rt xt below s 0 0) 72 (kt_M_line_72 rt xt) := by
    refine wq_aload_n_ok h0 kd_M_line_72 rfl ?_
    refine wq_get_ok (wq_getOK h0 hts ki_M hown hK (ci := 9) rfl 40 (Nat.le_of_ble_eq_true rfl) kw_1022 rfl) kd_M_line_73 ?_
    refine wq_iload_n_ok h0 kd_M_line_76 rfl ?_
    refine wq_zald_ok h0 hK kd_M_line_77 ?_
    refine wq_if_ne_ok (tgt := 91) h0 kd_M_line_78 (by decide) ?_ ?_
    · exact hb_91
    refine wq_aload_n_ok h0 kd_M_line_81 rfl ?_
    refine wq_get_ok (wq_getOK h0 hts ki_M hown hK (ci := 9) rfl 38 (Nat.le_of_ble_eq_true rfl) kw_1020 rfl) kd_M_line_82 ?_
    refine wq_iload_n_ok h0 kd_M_line_85 rfl ?_
    refine wq_iald_ok h0 hK kd_M_line_86 ?_
    refine wq_iconst_ok h0 kd_M_line_87 (by decide +kernel) ?_
    refine wq_icmp_ne_ok (tgt := 95) h0 kd_M_line_88 (by decide) ?_ ?_
    · exact hb_95
    exact hb_91
  have hb_60 : wq_Snd p l e ({ frames := 1, cells := 0, slots := 0, locals := 22 } : Room) s m args below meth c 10 cs D kz_cl A (wq_G0 ad w) (wq_Q cs D kz_cl A (wq_G0 ad w) rt xt below s 0 0) 60 (kt_M_line_60 rt xt) := by
    refine wq_istore_ok h0 kd_M_line_60 (Nat.le_of_ble_eq_true rfl) ?_
    refine wq_aload_n_ok h0 kd_M_line_62 rfl ?_
    refine wq_iload_ok h0 kd_M_line_63 ?_
    refine wq_if_ne_ok (tgt := 72) h0 kd_M_line_65 (by decide) ?_ ?_
    · exact hb_72
    refine wq_iconst_ok h0 kd_M_line_68 (by decide +kernel) ?_
    refine wq_goto_ok (tgt := 96) h0 kd_M_line_69 (by decide) ?_
    exact hb_96
  have hb_59 : wq_Snd p l e ({ frames := 1, cells := 0, slots := 0, locals := 22 } : Room) s m args below meth c 10 cs D kz_cl A (wq_G0 ad w) (wq_Q cs D kz_cl A (wq_G0 ad w) rt xt below s 0 0) 59 (kt_M_line_59 rt xt) := by
    refine wq_iconst_ok h0 kd_M_line_59 (by decide +kernel) ?_
    exact hb_60
  have hb_0 : wq_Snd p l e ({ frames := 1, cells := 0, slots := 0, locals := 22 } : Room) s m args below meth c 10 cs D kz_cl A (wq_G0 ad w) (wq_Q cs D kz_cl A (wq_G0 ad w) rt xt below s 0 0) 0 (kt_M_line_0 rt xt) := by
    refine wq_aload_n_ok h0 kd_M_line_0 rfl ?_
    refine wq_iload_n_ok h0 kd_M_line_1 rfl ?_
    refine wq_call_ok hA (wq_runV (ci := 9) ⟨h0.1, h0.2, hml, hown, hts⟩ (kv_M_isDeclaration hl) ⟨(wq_cB hts kw_G kw_1300 kw_10 kw_1297 ⟨by decide +kernel, by decide +kernel, by decide +kernel⟩ rfl rfl ⟨Nat.le_of_ble_eq_true rfl, Nat.le_of_ble_eq_true rfl⟩), hts _ kw_1299, hts _ kw_s39⟩ rfl rfl hK hZ hN hA kd_M_line_2) (wq_xout_ok hnt hlk) ?_
    refine wq_if_eq_ok (tgt := 59) h0 kd_M_line_5 (by decide) ?_ ?_
    · exact hb_59
    refine wq_iload_n_ok h0 kd_M_line_8 rfl ?_
    refine wq_iconst_ok h0 kd_M_line_9 (by decide +kernel) ?_
    refine wq_bipush_ok h0 kd_M_line_10 (by decide +kernel) ?_
    refine wq_call_ok hA (wq_runS ⟨h0.1, h0.2, hml, hown, hts⟩ (kv_M_within hl) ⟨(wq_cB hts kw_G kw_1209 kw_10 kw_1207 ⟨by decide +kernel, by decide +kernel, by decide +kernel⟩ rfl rfl ⟨Nat.le_of_ble_eq_true rfl, Nat.le_of_ble_eq_true rfl⟩), hts _ kw_1208⟩ hK hZ hN hA kd_M_line_12) (wq_xout_ok hnt hlk) ?_
    refine wq_if_eq_ok (tgt := 59) h0 kd_M_line_15 (by decide) ?_ ?_
    · exact hb_59
    refine wq_iload_n_ok h0 kd_M_line_18 rfl ?_
    refine wq_iconst_ok h0 kd_M_line_19 (by decide +kernel) ?_
    refine wq_bipush_ok h0 kd_M_line_20 (by decide +kernel) ?_
    refine wq_call_ok hA (wq_runS ⟨h0.1, h0.2, hml, hown, hts⟩ (kv_M_within hl) ⟨(wq_cB hts kw_G kw_1209 kw_10 kw_1207 ⟨by decide +kernel, by decide +kernel, by decide +kernel⟩ rfl rfl ⟨Nat.le_of_ble_eq_true rfl, Nat.le_of_ble_eq_true rfl⟩), hts _ kw_1208⟩ hK hZ hN hA kd_M_line_22) (wq_xout_ok hnt hlk) ?_
    refine wq_if_eq_ok (tgt := 59) h0 kd_M_line_25 (by decide) ?_ ?_
    · exact hb_59
    refine wq_iconst_ok h0 kd_M_line_28 (by decide +kernel) ?_
    refine wq_iload_ok h0 kd_M_line_29 ?_
    refine wq_call_ok hA (wq_runS ⟨h0.1, h0.2, hml, hown, hts⟩ (kv_M_isField hl) ⟨(wq_cB hts kw_G kw_1303 kw_10 kw_1301 ⟨by decide +kernel, by decide +kernel, by decide +kernel⟩ rfl rfl ⟨Nat.le_of_ble_eq_true rfl, Nat.le_of_ble_eq_true rfl⟩), hts _ kw_1302⟩ hK hZ hN hA kd_M_line_31) (wq_xout_ok hnt hlk) ?_
    refine wq_if_eq_ok (tgt := 59) h0 kd_M_line_34 (by decide) ?_ ?_
    · exact hb_59
    refine wq_iconst_ok h0 kd_M_line_37 (by decide +kernel) ?_
    refine wq_iload_ok h0 kd_M_line_38 ?_
    refine wq_call_ok hA (wq_runS ⟨h0.1, h0.2, hml, hown, hts⟩ (kv_M_isField hl) ⟨(wq_cB hts kw_G kw_1303 kw_10 kw_1301 ⟨by decide +kernel, by decide +kernel, by decide +kernel⟩ rfl rfl ⟨Nat.le_of_ble_eq_true rfl, Nat.le_of_ble_eq_true rfl⟩), hts _ kw_1302⟩ hK hZ hN hA kd_M_line_40) (wq_xout_ok hnt hlk) ?_
    refine wq_if_eq_ok (tgt := 59) h0 kd_M_line_43 (by decide) ?_ ?_
    · exact hb_59
    refine wq_iconst_ok h0 kd_M_line_46 (by decide +kernel) ?_
    refine wq_iload_ok h0 kd_M_line_47 ?_
    refine wq_call_ok hA (wq_runS ⟨h0.1, h0.2, hml, hown, hts⟩ (kv_M_isField hl) ⟨(wq_cB hts kw_G kw_1303 kw_10 kw_1301 ⟨by decide +kernel, by decide +kernel, by decide +kernel⟩ rfl rfl ⟨Nat.le_of_ble_eq_true rfl, Nat.le_of_ble_eq_true rfl⟩), hts _ kw_1302⟩ hK hZ hN hA kd_M_line_49) (wq_xout_ok hnt hlk) ?_
    refine wq_if_eq_ok (tgt := 59) h0 kd_M_line_52 (by decide) ?_ ?_
    · exact hb_59
    refine wq_iconst_ok h0 kd_M_line_55 (by decide +kernel) ?_
    refine wq_goto_ok (tgt := 60) h0 kd_M_line_56 (by decide) ?_
    exact hb_60
  exact hb_0 _ _ _ _ _ (wq_sp_t hsp)
set_option maxRecDepth 100000 in
set_option maxHeartbeats 4000000 in
theorem kv_M_charge {l : Launch} (hl : l.stackTraces = false) : wq_Vld l kz_cl ky_M_charge kw_T ({ frames := 1, cells := 0, slots := 0, locals := 22 }) wq_G0 ks_M_charge 0 0 := by
  refine wq_method (cc := kc_M_charge) (maxL := 4) (ret := none) (by decide) kw_1308 (fun _ _ => rfl) wq_sp_sz ?_
  intro p e s m args below meth c cs D ad as w rt xt hF hnt hsp
  obtain ⟨h0, hr, hts, hown, hlk, hnm, hml, hK, hZ, hN, hA⟩ := hF
  have hown : s.vm.findClass "BorderDeskModel" = some m.cls := hown
  obtain ⟨A, hAe⟩ : ∃ A, A = wq_A ad w s.heap.size := ⟨_, rfl⟩
  rw [← hAe] at hZ hA ⊢
  have hb_68 : wq_Snd p l e ({ frames := 1, cells := 0, slots := 0, locals := 22 } : Room) s m args below meth c 4 cs D kz_cl A (wq_G0 ad w) (wq_Q cs D kz_cl A (wq_G0 ad w) rt xt below s 0 0) 68 (kt_M_charge_68 rt xt) := by
    exact wq_vreturn_ok h0 hr hlk kd_M_charge_68
  have hb_47 : wq_Snd p l e ({ frames := 1, cells := 0, slots := 0, locals := 22 } : Room) s m args below meth c 4 cs D kz_cl A (wq_G0 ad w) (wq_Q cs D kz_cl A (wq_G0 ad w) rt xt below s 0 0) 47 (kt_M_charge_47 rt xt) := by
    refine wq_put_ok (wq_putOK h0 hts ki_M ka_M kb_M kn_M hown hK (ci := 9) rfl 0 (Nat.le_of_ble_eq_true rfl) kw_982 rfl (Or.inl rfl) wq_okI) kd_M_charge_47 ?_
    refine wq_aload_n_ok h0 kd_M_charge_50 rfl ?_
    refine wq_get_ok (wq_getOK h0 hts ki_M hown hK (ci := 9) rfl 0 (Nat.le_of_ble_eq_true rfl) kw_982 rfl) kd_M_charge_51 ?_
    refine wq_if_ne_ok (tgt := 68) h0 kd_M_charge_54 (by decide) ?_ ?_
    · exact hb_68
    refine wq_aload_n_ok h0 kd_M_charge_57 rfl ?_
    refine wq_get_ok (wq_getOK h0 hts ki_M hown hK (ci := 9) rfl 39 (Nat.le_of_ble_eq_true rfl) kw_1021 rfl) kd_M_charge_58 ?_
    refine wq_iconst_ok h0 kd_M_charge_61 (by decide +kernel) ?_
    refine wq_iload_n_ok h0 kd_M_charge_62 rfl ?_
    refine wq_imul_ok h0 kd_M_charge_63 ?_
    refine wq_iload_n_ok h0 kd_M_charge_64 rfl ?_
    refine wq_iadd_ok h0 kd_M_charge_65 ?_
    refine wq_iload_n_ok h0 kd_M_charge_66 rfl ?_
    refine wq_iast_ok h0 hK kd_M_charge_67 ?_
    exact hb_68
  have hb_29 : wq_Snd p l e ({ frames := 1, cells := 0, slots := 0, locals := 22 } : Room) s m args below meth c 4 cs D kz_cl A (wq_G0 ad w) (wq_Q cs D kz_cl A (wq_G0 ad w) rt xt below s 0 0) 29 (kt_M_charge_29 rt xt) := by
    refine wq_iconst_ok h0 kd_M_charge_29 (by decide +kernel) ?_
    refine wq_goto_ok (tgt := 47) h0 kd_M_charge_30 (by decide) ?_
    exact hb_47
  have hb_46 : wq_Snd p l e ({ frames := 1, cells := 0, slots := 0, locals := 22 } : Room) s m args below meth c 4 cs D kz_cl A (wq_G0 ad w) (wq_Q cs D kz_cl A (wq_G0 ad w) rt xt below s 0 0) 46 (kt_M_charge_46 rt xt) := by
    refine wq_iconst_ok h0 kd_M_charge_46 (by decide +kernel) ?_
    exact hb_47
  have hb_33 : wq_Snd p l e ({ frames := 1, cells := 0, slots := 0, locals := 22 } : Room) s m args below meth c 4 cs D kz_cl A (wq_G0 ad w) (wq_Q cs D kz_cl A (wq_G0 ad w) rt xt below s 0 0) 33 (kt_M_charge_33 rt xt) := by
    refine wq_aload_n_ok h0 kd_M_charge_33 rfl ?_
    refine wq_get_ok (wq_getOK h0 hts ki_M hown hK (ci := 9) rfl 40 (Nat.le_of_ble_eq_true rfl) kw_1022 rfl) kd_M_charge_34 ?_
    refine wq_iload_n_ok h0 kd_M_charge_37 rfl ?_
    refine wq_zald_ok h0 hK kd_M_charge_38 ?_
    refine wq_if_eq_ok (tgt := 46) h0 kd_M_charge_39 (by decide) ?_ ?_
    · exact hb_46
    refine wq_iconst_ok h0 kd_M_charge_42 (by decide +kernel) ?_
    refine wq_goto_ok (tgt := 47) h0 kd_M_charge_43 (by decide) ?_
    exact hb_47
  have hb_0 : wq_Snd p l e ({ frames := 1, cells := 0, slots := 0, locals := 22 } : Room) s m args below meth c 4 cs D kz_cl A (wq_G0 ad w) (wq_Q cs D kz_cl A (wq_G0 ad w) rt xt below s 0 0) 0 (kt_M_charge_0 rt xt) := by
    refine wq_aload_n_ok h0 kd_M_charge_0 rfl ?_
    refine wq_aload_n_ok h0 kd_M_charge_1 rfl ?_
    refine wq_iload_n_ok h0 kd_M_charge_2 rfl ?_
    refine wq_call_ok hA (wq_runV (ci := 9) ⟨h0.1, h0.2, hml, hown, hts⟩ (kv_M_isDeclaration hl) ⟨(wq_cB hts kw_G kw_1300 kw_10 kw_1297 ⟨by decide +kernel, by decide +kernel, by decide +kernel⟩ rfl rfl ⟨Nat.le_of_ble_eq_true rfl, Nat.le_of_ble_eq_true rfl⟩), hts _ kw_1299, hts _ kw_s39⟩ rfl rfl hK hZ hN hA kd_M_charge_3) (wq_xout_ok hnt hlk) ?_
    refine wq_if_eq_ok (tgt := 29) h0 kd_M_charge_6 (by decide) ?_ ?_
    · exact hb_29
    refine wq_iload_n_ok h0 kd_M_charge_9 rfl ?_
    refine wq_iconst_ok h0 kd_M_charge_10 (by decide +kernel) ?_
    refine wq_iconst_ok h0 kd_M_charge_11 (by decide +kernel) ?_
    refine wq_call_ok hA (wq_runS ⟨h0.1, h0.2, hml, hown, hts⟩ (kv_M_within hl) ⟨(wq_cB hts kw_G kw_1209 kw_10 kw_1207 ⟨by decide +kernel, by decide +kernel, by decide +kernel⟩ rfl rfl ⟨Nat.le_of_ble_eq_true rfl, Nat.le_of_ble_eq_true rfl⟩), hts _ kw_1208⟩ hK hZ hN hA kd_M_charge_12) (wq_xout_ok hnt hlk) ?_
    refine wq_if_eq_ok (tgt := 29) h0 kd_M_charge_15 (by decide) ?_ ?_
    · exact hb_29
    refine wq_iload_n_ok h0 kd_M_charge_18 rfl ?_
    refine wq_iconst_ok h0 kd_M_charge_19 (by decide +kernel) ?_
    refine wq_ldcw_ok (v := 10000000) h0 hown (hts _ kw_1309) kd_M_charge_20 ?_
    refine wq_call_ok hA (wq_runS ⟨h0.1, h0.2, hml, hown, hts⟩ (kv_M_within hl) ⟨(wq_cB hts kw_G kw_1209 kw_10 kw_1207 ⟨by decide +kernel, by decide +kernel, by decide +kernel⟩ rfl rfl ⟨Nat.le_of_ble_eq_true rfl, Nat.le_of_ble_eq_true rfl⟩), hts _ kw_1208⟩ hK hZ hN hA kd_M_charge_23) (wq_xout_ok hnt hlk) ?_
    refine wq_if_ne_ok (tgt := 33) h0 kd_M_charge_26 (by decide) ?_ ?_
    · exact hb_33
    exact hb_29
  exact hb_0 _ _ _ _ _ (wq_sp_t hsp)
