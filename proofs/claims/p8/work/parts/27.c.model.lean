set_option maxRecDepth 100000 in
set_option maxHeartbeats 4000000 in
theorem kv_M_spread {l : Launch} (hl : l.stackTraces = false) : wq_Vld l kz_cl ky_M_spread kw_T ({ frames := 0, cells := 0, slots := 0, locals := 0 }) wq_G0 ks_M_spread 0 0 := by
  refine wq_method (cc := kc_M_spread) (maxL := 10) (ret := none) (by decide) kw_1325 (fun _ _ => rfl) wq_sp_sz ?_
  intro p e s m args below meth c cs D ad as w rt xt hF hnt hsp
  obtain ⟨h0, hr, hts, hown, hlk, hnm, hml, hK, hZ, hN, hA⟩ := hF
  have hown : s.vm.findClass "BorderDeskModel" = some m.cls := hown
  obtain ⟨A, hAe⟩ : ∃ A, A = wq_A ad w s.heap.size := ⟨_, rfl⟩
  rw [← hAe] at hZ hA ⊢
  have hall : ∀ K : Nat → wq_T, (∀ pc, pc ∈ [5, 88, 194, 205] → wq_Snd p l e ({ frames := 0, cells := 0, slots := 0, locals := 0 } : Room) s m args below meth c 10 cs D kz_cl A (wq_G0 ad w) (wq_Q cs D kz_cl A (wq_G0 ad w) rt xt below s 0 0) pc (K pc)) → (∀ pc, pc ∈ [5, 88, 194, 205] → wq_Snd p l e ({ frames := 0, cells := 0, slots := 0, locals := 0 } : Room) s m args below meth c 10 cs D kz_cl A (wq_G0 ad w) (wq_Q cs D kz_cl A (wq_G0 ad w) rt xt below s 0 0) pc (cond (Nat.beq pc 5) (kh_M_spread_5 rt xt K) (cond (Nat.beq pc 88) (kh_M_spread_88 rt xt K) (cond (Nat.beq pc 194) (kh_M_spread_194 rt xt K) (cond (Nat.beq pc 205) (kh_M_spread_205 rt xt K) (fun _ _ _ _ _ => False)))))) ∧ wq_Snd p l e ({ frames := 0, cells := 0, slots := 0, locals := 0 } : Room) s m args below meth c 10 cs D kz_cl A (wq_G0 ad w) (wq_Q cs D kz_cl A (wq_G0 ad w) rt xt below s 0 0) 0 (kt_M_spread_0 rt xt K) := by
    intro K hKc
    have hb_72 : wq_Snd p l e ({ frames := 0, cells := 0, slots := 0, locals := 0 } : Room) s m args below meth c 10 cs D kz_cl A (wq_G0 ad w) (wq_Q cs D kz_cl A (wq_G0 ad w) rt xt below s 0 0) 72 (kt_M_spread_72 rt xt K) := by
      refine wq_lstore_n_ok h0 kd_M_spread_72 rfl (Nat.le_of_ble_eq_true rfl) ?_
      refine wq_aload_n_ok h0 kd_M_spread_73 rfl ?_
      refine wq_get_ok (wq_getOK h0 hts ki_M hown hK (ci := 9) rfl 39 (Nat.le_of_ble_eq_true rfl) kw_1021 rfl) kd_M_spread_74 ?_
      refine wq_iconst_ok h0 kd_M_spread_77 (by decide +kernel) ?_
      refine wq_iload_n_ok h0 kd_M_spread_78 rfl ?_
      refine wq_imul_ok h0 kd_M_spread_79 ?_
      refine wq_iload_n_ok h0 kd_M_spread_80 rfl ?_
      refine wq_iadd_ok h0 kd_M_spread_81 ?_
      refine wq_iald_ok h0 hK kd_M_spread_82 ?_
      refine wq_istore_ok h0 kd_M_spread_83 (Nat.le_of_ble_eq_true rfl) ?_
      refine wq_iconst_ok h0 kd_M_spread_85 (by decide +kernel) ?_
      refine wq_istore_ok h0 kd_M_spread_86 (Nat.le_of_ble_eq_true rfl) ?_
      exact wq_can_ok (hKc 88 (by decide))
    have hb_71 : wq_Snd p l e ({ frames := 0, cells := 0, slots := 0, locals := 0 } : Room) s m args below meth c 10 cs D kz_cl A (wq_G0 ad w) (wq_Q cs D kz_cl A (wq_G0 ad w) rt xt below s 0 0) 71 (kt_M_spread_71 rt xt K) := by
      refine wq_lload_n_ok h0 kd_M_spread_71 rfl ?_
      exact hb_72
    have hb_54 : wq_Snd p l e ({ frames := 0, cells := 0, slots := 0, locals := 0 } : Room) s m args below meth c 10 cs D kz_cl A (wq_G0 ad w) (wq_Q cs D kz_cl A (wq_G0 ad w) rt xt below s 0 0) 54 (kt_M_spread_54 rt xt K) := by
      refine wq_istore_ok h0 kd_M_spread_54 (Nat.le_of_ble_eq_true rfl) ?_
      refine wq_iload_ok h0 kd_M_spread_56 ?_
      refine wq_if_eq_ok (tgt := 71) h0 kd_M_spread_58 (by decide) ?_ ?_
      · exact hb_71
      refine wq_aload_n_ok h0 kd_M_spread_61 rfl ?_
      refine wq_get_ok (wq_getOK h0 hts ki_M hown hK (ci := 9) rfl 38 (Nat.le_of_ble_eq_true rfl) kw_1020 rfl) kd_M_spread_62 ?_
      refine wq_iload_n_ok h0 kd_M_spread_65 rfl ?_
      refine wq_iald_ok h0 hK kd_M_spread_66 ?_
      refine wq_i2l_ok h0 kd_M_spread_67 ?_
      refine wq_goto_ok (tgt := 72) h0 kd_M_spread_68 (by decide) ?_
      exact hb_72
    have hb_53 : wq_Snd p l e ({ frames := 0, cells := 0, slots := 0, locals := 0 } : Room) s m args below meth c 10 cs D kz_cl A (wq_G0 ad w) (wq_Q cs D kz_cl A (wq_G0 ad w) rt xt below s 0 0) 53 (kt_M_spread_53 rt xt K) := by
      refine wq_iconst_ok h0 kd_M_spread_53 (by decide +kernel) ?_
      exact hb_54
    have hb_43 : wq_Snd p l e ({ frames := 0, cells := 0, slots := 0, locals := 0 } : Room) s m args below meth c 10 cs D kz_cl A (wq_G0 ad w) (wq_Q cs D kz_cl A (wq_G0 ad w) rt xt below s 0 0) 43 (kt_M_spread_43 rt xt K) := by
      refine wq_lload_n_ok h0 kd_M_spread_43 rfl ?_
      refine wq_lconst_ok h0 kd_M_spread_44 (by decide +kernel) ?_
      refine wq_lcmp_ne_ok (tgt := 53) h0 kd_M_spread_45 kd_M_spread_46 (by decide) ?_ ?_
      · exact hb_53
      refine wq_iconst_ok h0 kd_M_spread_49 (by decide +kernel) ?_
      refine wq_goto_ok (tgt := 54) h0 kd_M_spread_50 (by decide) ?_
      exact hb_54
    have hb_5 : wq_Snd p l e ({ frames := 0, cells := 0, slots := 0, locals := 0 } : Room) s m args below meth c 10 cs D kz_cl A (wq_G0 ad w) (wq_Q cs D kz_cl A (wq_G0 ad w) rt xt below s 0 0) 5 (kh_M_spread_5 rt xt K) := by
      refine wq_iload_ok h0 kd_M_spread_5 ?_
      refine wq_aload_n_ok h0 kd_M_spread_7 rfl ?_
      refine wq_get_ok (wq_getOK h0 hts ki_M hown hK (ci := 9) rfl 38 (Nat.le_of_ble_eq_true rfl) kw_1020 rfl) kd_M_spread_8 ?_
      refine wq_iload_n_ok h0 kd_M_spread_11 rfl ?_
      refine wq_iald_ok h0 hK kd_M_spread_12 ?_
      refine wq_icmp_ge_ok (tgt := 43) h0 kd_M_spread_13 (by decide) ?_ ?_
      · exact hb_43
      refine wq_lload_n_ok h0 kd_M_spread_16 rfl ?_
      refine wq_aload_n_ok h0 kd_M_spread_17 rfl ?_
      refine wq_get_ok (wq_getOK h0 hts ki_M hown hK (ci := 9) rfl 45 (Nat.le_of_ble_eq_true rfl) kw_1027 rfl) kd_M_spread_18 ?_
      refine wq_iconst_ok h0 kd_M_spread_21 (by decide +kernel) ?_
      refine wq_iconst_ok h0 kd_M_spread_22 (by decide +kernel) ?_
      refine wq_iload_n_ok h0 kd_M_spread_23 rfl ?_
      refine wq_imul_ok h0 kd_M_spread_24 ?_
      refine wq_iload_ok h0 kd_M_spread_25 ?_
      refine wq_iadd_ok h0 kd_M_spread_27 ?_
      refine wq_imul_ok h0 kd_M_spread_28 ?_
      refine wq_iconst_ok h0 kd_M_spread_29 (by decide +kernel) ?_
      refine wq_iadd_ok h0 kd_M_spread_30 ?_
      refine wq_iload_n_ok h0 kd_M_spread_31 rfl ?_
      refine wq_iadd_ok h0 kd_M_spread_32 ?_
      refine wq_iald_ok h0 hK kd_M_spread_33 ?_
      refine wq_i2l_ok h0 kd_M_spread_34 ?_
      refine wq_ladd_ok h0 kd_M_spread_35 ?_
      refine wq_lstore_n_ok h0 kd_M_spread_36 rfl (Nat.le_of_ble_eq_true rfl) ?_
      refine wq_iinc_ok h0 kd_M_spread_37 (by decide +kernel) (Nat.le_of_ble_eq_true rfl) ?_
      refine wq_goto_ok (tgt := 5) h0 kd_M_spread_40 (by decide) ?_
      exact wq_can_ok (hKc 5 (by decide))
    have hb_137 : wq_Snd p l e ({ frames := 0, cells := 0, slots := 0, locals := 0 } : Room) s m args below meth c 10 cs D kz_cl A (wq_G0 ad w) (wq_Q cs D kz_cl A (wq_G0 ad w) rt xt below s 0 0) 137 (kt_M_spread_137 rt xt K) := by
      refine wq_lmul_ok h0 kd_M_spread_137 ?_
      refine wq_lstore_ok h0 kd_M_spread_138 (Nat.le_of_ble_eq_true rfl) ?_
      refine wq_aload_n_ok h0 kd_M_spread_140 rfl ?_
      refine wq_get_ok (wq_getOK h0 hts ki_M hown hK (ci := 9) rfl 46 (Nat.le_of_ble_eq_true rfl) kw_1028 rfl) kd_M_spread_141 ?_
      refine wq_iconst_ok h0 kd_M_spread_144 (by decide +kernel) ?_
      refine wq_iload_n_ok h0 kd_M_spread_145 rfl ?_
      refine wq_imul_ok h0 kd_M_spread_146 ?_
      refine wq_iload_ok h0 kd_M_spread_147 ?_
      refine wq_iadd_ok h0 kd_M_spread_149 ?_
      refine wq_aload_n_ok h0 kd_M_spread_150 rfl ?_
      refine wq_get_ok (wq_getOK h0 hts ki_M hown hK (ci := 9) rfl 46 (Nat.le_of_ble_eq_true rfl) kw_1028 rfl) kd_M_spread_151 ?_
      refine wq_iconst_ok h0 kd_M_spread_154 (by decide +kernel) ?_
      refine wq_iload_n_ok h0 kd_M_spread_155 rfl ?_
      refine wq_imul_ok h0 kd_M_spread_156 ?_
      refine wq_iload_ok h0 kd_M_spread_157 ?_
      refine wq_iadd_ok h0 kd_M_spread_159 ?_
      refine wq_lald_ok h0 hK kd_M_spread_160 ?_
      refine wq_lload_ok h0 kd_M_spread_161 ?_
      refine wq_lload_n_ok h0 kd_M_spread_163 rfl ?_
      refine wq_ldiv_ok h0 kd_M_spread_164 ?_
      refine wq_ladd_ok h0 kd_M_spread_165 ?_
      refine wq_last_ok h0 hK kd_M_spread_166 ?_
      refine wq_aload_n_ok h0 kd_M_spread_167 rfl ?_
      refine wq_get_ok (wq_getOK h0 hts ki_M hown hK (ci := 9) rfl 47 (Nat.le_of_ble_eq_true rfl) kw_1029 rfl) kd_M_spread_168 ?_
      refine wq_iload_ok h0 kd_M_spread_171 ?_
      refine wq_lload_ok h0 kd_M_spread_173 ?_
      refine wq_lload_n_ok h0 kd_M_spread_175 rfl ?_
      refine wq_lrem_ok h0 kd_M_spread_176 ?_
      refine wq_last_ok h0 hK kd_M_spread_177 ?_
      refine wq_iload_ok h0 kd_M_spread_178 ?_
      refine wq_lload_ok h0 kd_M_spread_180 ?_
      refine wq_lload_n_ok h0 kd_M_spread_182 rfl ?_
      refine wq_ldiv_ok h0 kd_M_spread_183 ?_
      refine wq_l2i_ok h0 kd_M_spread_184 ?_
      refine wq_isub_ok h0 kd_M_spread_185 ?_
      refine wq_istore_ok h0 kd_M_spread_186 (Nat.le_of_ble_eq_true rfl) ?_
      refine wq_iinc_ok h0 kd_M_spread_188 (by decide +kernel) (Nat.le_of_ble_eq_true rfl) ?_
      refine wq_goto_ok (tgt := 88) h0 kd_M_spread_191 (by decide) ?_
      exact wq_can_ok (hKc 88 (by decide))
    have hb_119 : wq_Snd p l e ({ frames := 0, cells := 0, slots := 0, locals := 0 } : Room) s m args below meth c 10 cs D kz_cl A (wq_G0 ad w) (wq_Q cs D kz_cl A (wq_G0 ad w) rt xt below s 0 0) 119 (kt_M_spread_119 rt xt K) := by
      refine wq_aload_n_ok h0 kd_M_spread_119 rfl ?_
      refine wq_get_ok (wq_getOK h0 hts ki_M hown hK (ci := 9) rfl 45 (Nat.le_of_ble_eq_true rfl) kw_1027 rfl) kd_M_spread_120 ?_
      refine wq_iconst_ok h0 kd_M_spread_123 (by decide +kernel) ?_
      refine wq_iconst_ok h0 kd_M_spread_124 (by decide +kernel) ?_
      refine wq_iload_n_ok h0 kd_M_spread_125 rfl ?_
      refine wq_imul_ok h0 kd_M_spread_126 ?_
      refine wq_iload_ok h0 kd_M_spread_127 ?_
      refine wq_iadd_ok h0 kd_M_spread_129 ?_
      refine wq_imul_ok h0 kd_M_spread_130 ?_
      refine wq_iconst_ok h0 kd_M_spread_131 (by decide +kernel) ?_
      refine wq_iadd_ok h0 kd_M_spread_132 ?_
      refine wq_iload_n_ok h0 kd_M_spread_133 rfl ?_
      refine wq_iadd_ok h0 kd_M_spread_134 ?_
      refine wq_iald_ok h0 hK kd_M_spread_135 ?_
      refine wq_i2l_ok h0 kd_M_spread_136 ?_
      exact hb_137
    have hb_88 : wq_Snd p l e ({ frames := 0, cells := 0, slots := 0, locals := 0 } : Room) s m args below meth c 10 cs D kz_cl A (wq_G0 ad w) (wq_Q cs D kz_cl A (wq_G0 ad w) rt xt below s 0 0) 88 (kh_M_spread_88 rt xt K) := by
      refine wq_iload_ok h0 kd_M_spread_88 ?_
      refine wq_aload_n_ok h0 kd_M_spread_90 rfl ?_
      refine wq_get_ok (wq_getOK h0 hts ki_M hown hK (ci := 9) rfl 38 (Nat.le_of_ble_eq_true rfl) kw_1020 rfl) kd_M_spread_91 ?_
      refine wq_iload_n_ok h0 kd_M_spread_94 rfl ?_
      refine wq_iald_ok h0 hK kd_M_spread_95 ?_
      refine wq_icmp_ge_ok (tgt := 194) h0 kd_M_spread_96 (by decide) ?_ ?_
      · exact wq_can_ok (hKc 194 (by decide))
      refine wq_aload_n_ok h0 kd_M_spread_99 rfl ?_
      refine wq_get_ok (wq_getOK h0 hts ki_M hown hK (ci := 9) rfl 39 (Nat.le_of_ble_eq_true rfl) kw_1021 rfl) kd_M_spread_100 ?_
      refine wq_iconst_ok h0 kd_M_spread_103 (by decide +kernel) ?_
      refine wq_iload_n_ok h0 kd_M_spread_104 rfl ?_
      refine wq_imul_ok h0 kd_M_spread_105 ?_
      refine wq_iload_n_ok h0 kd_M_spread_106 rfl ?_
      refine wq_iadd_ok h0 kd_M_spread_107 ?_
      refine wq_iald_ok h0 hK kd_M_spread_108 ?_
      refine wq_i2l_ok h0 kd_M_spread_109 ?_
      refine wq_iload_ok h0 kd_M_spread_110 ?_
      refine wq_if_eq_ok (tgt := 119) h0 kd_M_spread_112 (by decide) ?_ ?_
      · exact hb_119
      refine wq_lconst_ok h0 kd_M_spread_115 (by decide +kernel) ?_
      refine wq_goto_ok (tgt := 137) h0 kd_M_spread_116 (by decide) ?_
      exact hb_137
    have hb_280 : wq_Snd p l e ({ frames := 0, cells := 0, slots := 0, locals := 0 } : Room) s m args below meth c 10 cs D kz_cl A (wq_G0 ad w) (wq_Q cs D kz_cl A (wq_G0 ad w) rt xt below s 0 0) 280 (kt_M_spread_280 rt xt K) := by
      exact wq_vreturn_ok h0 hr hlk kd_M_spread_280
    have hb_194 : wq_Snd p l e ({ frames := 0, cells := 0, slots := 0, locals := 0 } : Room) s m args below meth c 10 cs D kz_cl A (wq_G0 ad w) (wq_Q cs D kz_cl A (wq_G0 ad w) rt xt below s 0 0) 194 (kh_M_spread_194 rt xt K) := by
      refine wq_iload_ok h0 kd_M_spread_194 ?_
      refine wq_if_le_ok (tgt := 280) h0 kd_M_spread_196 (by decide) ?_ ?_
      · exact hb_280
      refine wq_iconst_ok h0 kd_M_spread_199 (by decide +kernel) ?_
      refine wq_istore_ok h0 kd_M_spread_200 (Nat.le_of_ble_eq_true rfl) ?_
      refine wq_iconst_ok h0 kd_M_spread_202 (by decide +kernel) ?_
      refine wq_istore_ok h0 kd_M_spread_203 (Nat.le_of_ble_eq_true rfl) ?_
      exact wq_can_ok (hKc 205 (by decide))
    have hb_249 : wq_Snd p l e ({ frames := 0, cells := 0, slots := 0, locals := 0 } : Room) s m args below meth c 10 cs D kz_cl A (wq_G0 ad w) (wq_Q cs D kz_cl A (wq_G0 ad w) rt xt below s 0 0) 249 (kt_M_spread_249 rt xt K) := by
      refine wq_aload_n_ok h0 kd_M_spread_249 rfl ?_
      refine wq_get_ok (wq_getOK h0 hts ki_M hown hK (ci := 9) rfl 46 (Nat.le_of_ble_eq_true rfl) kw_1028 rfl) kd_M_spread_250 ?_
      refine wq_iconst_ok h0 kd_M_spread_253 (by decide +kernel) ?_
      refine wq_iload_n_ok h0 kd_M_spread_254 rfl ?_
      refine wq_imul_ok h0 kd_M_spread_255 ?_
      refine wq_iload_ok h0 kd_M_spread_256 ?_
      refine wq_iadd_ok h0 kd_M_spread_258 ?_
      refine wq_dup2_ok h0 kd_M_spread_259 ?_
      refine wq_lald_ok h0 hK kd_M_spread_260 ?_
      refine wq_lconst_ok h0 kd_M_spread_261 (by decide +kernel) ?_
      refine wq_ladd_ok h0 kd_M_spread_262 ?_
      refine wq_last_ok h0 hK kd_M_spread_263 ?_
      refine wq_aload_n_ok h0 kd_M_spread_264 rfl ?_
      refine wq_get_ok (wq_getOK h0 hts ki_M hown hK (ci := 9) rfl 47 (Nat.le_of_ble_eq_true rfl) kw_1029 rfl) kd_M_spread_265 ?_
      refine wq_iload_ok h0 kd_M_spread_268 ?_
      refine wq_ldc2_ok (v := -1) h0 hown (hts _ kw_1326) kd_M_spread_270 ?_
      refine wq_last_ok h0 hK kd_M_spread_273 ?_
      refine wq_iinc_ok h0 kd_M_spread_274 (by decide +kernel) (Nat.le_of_ble_eq_true rfl) ?_
      refine wq_goto_ok (tgt := 194) h0 kd_M_spread_277 (by decide) ?_
      exact wq_can_ok (hKc 194 (by decide))
    have hb_241 : wq_Snd p l e ({ frames := 0, cells := 0, slots := 0, locals := 0 } : Room) s m args below meth c 10 cs D kz_cl A (wq_G0 ad w) (wq_Q cs D kz_cl A (wq_G0 ad w) rt xt below s 0 0) 241 (kt_M_spread_241 rt xt K) := by
      refine wq_istore_ok h0 kd_M_spread_241 (Nat.le_of_ble_eq_true rfl) ?_
      refine wq_iinc_ok h0 kd_M_spread_243 (by decide +kernel) (Nat.le_of_ble_eq_true rfl) ?_
      refine wq_goto_ok (tgt := 205) h0 kd_M_spread_246 (by decide) ?_
      exact wq_can_ok (hKc 205 (by decide))
    have hb_239 : wq_Snd p l e ({ frames := 0, cells := 0, slots := 0, locals := 0 } : Room) s m args below meth c 10 cs D kz_cl A (wq_G0 ad w) (wq_Q cs D kz_cl A (wq_G0 ad w) rt xt below s 0 0) 239 (kt_M_spread_239 rt xt K) := by
      refine wq_iload_ok h0 kd_M_spread_239 ?_
      exact hb_241
    have hb_205 : wq_Snd p l e ({ frames := 0, cells := 0, slots := 0, locals := 0 } : Room) s m args below meth c 10 cs D kz_cl A (wq_G0 ad w) (wq_Q cs D kz_cl A (wq_G0 ad w) rt xt below s 0 0) 205 (kh_M_spread_205 rt xt K) := by
      refine wq_iload_ok h0 kd_M_spread_205 ?_
      refine wq_aload_n_ok h0 kd_M_spread_207 rfl ?_
      refine wq_get_ok (wq_getOK h0 hts ki_M hown hK (ci := 9) rfl 38 (Nat.le_of_ble_eq_true rfl) kw_1020 rfl) kd_M_spread_208 ?_
      refine wq_iload_n_ok h0 kd_M_spread_211 rfl ?_
      refine wq_iald_ok h0 hK kd_M_spread_212 ?_
      refine wq_icmp_ge_ok (tgt := 249) h0 kd_M_spread_213 (by decide) ?_ ?_
      · exact hb_249
      refine wq_aload_n_ok h0 kd_M_spread_216 rfl ?_
      refine wq_get_ok (wq_getOK h0 hts ki_M hown hK (ci := 9) rfl 47 (Nat.le_of_ble_eq_true rfl) kw_1029 rfl) kd_M_spread_217 ?_
      refine wq_iload_ok h0 kd_M_spread_220 ?_
      refine wq_lald_ok h0 hK kd_M_spread_222 ?_
      refine wq_aload_n_ok h0 kd_M_spread_223 rfl ?_
      refine wq_get_ok (wq_getOK h0 hts ki_M hown hK (ci := 9) rfl 47 (Nat.le_of_ble_eq_true rfl) kw_1029 rfl) kd_M_spread_224 ?_
      refine wq_iload_ok h0 kd_M_spread_227 ?_
      refine wq_lald_ok h0 hK kd_M_spread_229 ?_
      refine wq_lcmp_le_ok (tgt := 239) h0 kd_M_spread_230 kd_M_spread_231 (by decide) ?_ ?_
      · exact hb_239
      refine wq_iload_ok h0 kd_M_spread_234 ?_
      refine wq_goto_ok (tgt := 241) h0 kd_M_spread_236 (by decide) ?_
      exact hb_241
    have hb_0 : wq_Snd p l e ({ frames := 0, cells := 0, slots := 0, locals := 0 } : Room) s m args below meth c 10 cs D kz_cl A (wq_G0 ad w) (wq_Q cs D kz_cl A (wq_G0 ad w) rt xt below s 0 0) 0 (kt_M_spread_0 rt xt K) := by
      refine wq_lconst_ok h0 kd_M_spread_0 (by decide +kernel) ?_
      refine wq_lstore_n_ok h0 kd_M_spread_1 rfl (Nat.le_of_ble_eq_true rfl) ?_
      refine wq_iconst_ok h0 kd_M_spread_2 (by decide +kernel) ?_
      refine wq_istore_ok h0 kd_M_spread_3 (Nat.le_of_ble_eq_true rfl) ?_
      exact wq_can_ok (hKc 5 (by decide))
    refine ⟨?_, hb_0⟩
    exact List.forall_mem_cons.mpr ⟨hb_5, List.forall_mem_cons.mpr ⟨hb_88, List.forall_mem_cons.mpr ⟨hb_194, List.forall_mem_cons.mpr ⟨hb_205, fun _ h => absurd h List.not_mem_nil⟩⟩⟩⟩
  have hun : ∀ (n pc : Nat), pc ∈ [5, 88, 194, 205] → wq_Snd p l e ({ frames := 0, cells := 0, slots := 0, locals := 0 } : Room) s m args below meth c 10 cs D kz_cl A (wq_G0 ad w) (wq_Q cs D kz_cl A (wq_G0 ad w) rt xt below s 0 0) pc (ku_M_spread rt xt n pc) := by
    intro n
    induction n with
    | zero => intro pc _ L S w9 n1 n2 h; exact h.elim
    | succ n ih => intro pc hpc; exact (hall (ku_M_spread rt xt n) ih).1 pc hpc
  exact (hall (ku_M_spread rt xt 1000000000000) (hun 1000000000000)).2 _ _ _ _ _ (wq_sp_t hsp)
set_option maxRecDepth 100000 in
set_option maxHeartbeats 4000000 in
theorem kv_M_value {l : Launch} (hl : l.stackTraces = false) : wq_Vld l kz_cl ky_M_value kw_T ({ frames := 1, cells := 0, slots := 0, locals := 29 }) wq_G0 ks_M_value 0 0 := by
  refine wq_method (cc := kc_M_value) (maxL := 3) (ret := none) (by decide) kw_1321 (fun _ _ => rfl) wq_sp_sz ?_
  intro p e s m args below meth c cs D ad as w rt xt hF hnt hsp
  obtain ⟨h0, hr, hts, hown, hlk, hnm, hml, hK, hZ, hN, hA⟩ := hF
  have hown : s.vm.findClass "BorderDeskModel" = some m.cls := hown
  obtain ⟨A, hAe⟩ : ∃ A, A = wq_A ad w s.heap.size := ⟨_, rfl⟩
  rw [← hAe] at hZ hA ⊢
  have hall : ∀ K : Nat → wq_T, (∀ pc, pc ∈ [4] → wq_Snd p l e ({ frames := 1, cells := 0, slots := 0, locals := 29 } : Room) s m args below meth c 3 cs D kz_cl A (wq_G0 ad w) (wq_Q cs D kz_cl A (wq_G0 ad w) rt xt below s 0 0) pc (K pc)) → (∀ pc, pc ∈ [4] → wq_Snd p l e ({ frames := 1, cells := 0, slots := 0, locals := 29 } : Room) s m args below meth c 3 cs D kz_cl A (wq_G0 ad w) (wq_Q cs D kz_cl A (wq_G0 ad w) rt xt below s 0 0) pc (cond (Nat.beq pc 4) (kh_M_value_4 rt xt K) (fun _ _ _ _ _ => False))) ∧ wq_Snd p l e ({ frames := 1, cells := 0, slots := 0, locals := 29 } : Room) s m args below meth c 3 cs D kz_cl A (wq_G0 ad w) (wq_Q cs D kz_cl A (wq_G0 ad w) rt xt below s 0 0) 0 (kt_M_value_0 rt xt K) := by
    intro K hKc
    have hb_62 : wq_Snd p l e ({ frames := 1, cells := 0, slots := 0, locals := 29 } : Room) s m args below meth c 3 cs D kz_cl A (wq_G0 ad w) (wq_Q cs D kz_cl A (wq_G0 ad w) rt xt below s 0 0) 62 (kt_M_value_62 rt xt K) := by
      exact wq_vreturn_ok h0 hr hlk kd_M_value_62
    have hb_41 : wq_Snd p l e ({ frames := 1, cells := 0, slots := 0, locals := 29 } : Room) s m args below meth c 3 cs D kz_cl A (wq_G0 ad w) (wq_Q cs D kz_cl A (wq_G0 ad w) rt xt below s 0 0) 41 (kt_M_value_41 rt xt K) := by
      refine wq_aload_n_ok h0 kd_M_value_41 rfl ?_
      refine wq_get_ok (wq_getOK h0 hts ki_M hown hK (ci := 9) rfl 38 (Nat.le_of_ble_eq_true rfl) kw_1020 rfl) kd_M_value_42 ?_
      refine wq_iload_n_ok h0 kd_M_value_45 rfl ?_
      refine wq_iald_ok h0 hK kd_M_value_46 ?_
      refine wq_if_le_ok (tgt := 62) h0 kd_M_value_47 (by decide) ?_ ?_
      · exact hb_62
      refine wq_aload_n_ok h0 kd_M_value_50 rfl ?_
      refine wq_iload_n_ok h0 kd_M_value_51 rfl ?_
      refine wq_iconst_ok h0 kd_M_value_52 (by decide +kernel) ?_
      refine wq_call_ok hA (wq_runV (ci := 9) ⟨h0.1, h0.2, hml, hown, hts⟩ (kv_M_spread hl) ⟨(wq_cB hts kw_G kw_1325 kw_10 kw_1322 ⟨by decide +kernel, by decide +kernel, by decide +kernel⟩ rfl rfl ⟨Nat.le_of_ble_eq_true rfl, Nat.le_of_ble_eq_true rfl⟩), hts _ kw_1324, hts _ kw_s42⟩ rfl rfl hK hZ hN hA kd_M_value_53) (wq_xout_ok hnt hlk) ?_
      refine wq_aload_n_ok h0 kd_M_value_56 rfl ?_
      refine wq_iload_n_ok h0 kd_M_value_57 rfl ?_
      refine wq_iconst_ok h0 kd_M_value_58 (by decide +kernel) ?_
      refine wq_call_ok hA (wq_runV (ci := 9) ⟨h0.1, h0.2, hml, hown, hts⟩ (kv_M_spread hl) ⟨(wq_cB hts kw_G kw_1325 kw_10 kw_1322 ⟨by decide +kernel, by decide +kernel, by decide +kernel⟩ rfl rfl ⟨Nat.le_of_ble_eq_true rfl, Nat.le_of_ble_eq_true rfl⟩), hts _ kw_1324, hts _ kw_s42⟩ rfl rfl hK hZ hN hA kd_M_value_59) (wq_xout_ok hnt hlk) ?_
      exact hb_62
    have hb_4 : wq_Snd p l e ({ frames := 1, cells := 0, slots := 0, locals := 29 } : Room) s m args below meth c 3 cs D kz_cl A (wq_G0 ad w) (wq_Q cs D kz_cl A (wq_G0 ad w) rt xt below s 0 0) 4 (kh_M_value_4 rt xt K) := by
      refine wq_iload_n_ok h0 kd_M_value_4 rfl ?_
      refine wq_iconst_ok h0 kd_M_value_5 (by decide +kernel) ?_
      refine wq_iload_n_ok h0 kd_M_value_6 rfl ?_
      refine wq_imul_ok h0 kd_M_value_7 ?_
      refine wq_aload_n_ok h0 kd_M_value_8 rfl ?_
      refine wq_get_ok (wq_getOK h0 hts ki_M hown hK (ci := 9) rfl 38 (Nat.le_of_ble_eq_true rfl) kw_1020 rfl) kd_M_value_9 ?_
      refine wq_iload_n_ok h0 kd_M_value_12 rfl ?_
      refine wq_iald_ok h0 hK kd_M_value_13 ?_
      refine wq_iadd_ok h0 kd_M_value_14 ?_
      refine wq_icmp_ge_ok (tgt := 41) h0 kd_M_value_15 (by decide) ?_ ?_
      · exact hb_41
      refine wq_aload_n_ok h0 kd_M_value_18 rfl ?_
      refine wq_get_ok (wq_getOK h0 hts ki_M hown hK (ci := 9) rfl 46 (Nat.le_of_ble_eq_true rfl) kw_1028 rfl) kd_M_value_19 ?_
      refine wq_iload_n_ok h0 kd_M_value_22 rfl ?_
      refine wq_aload_n_ok h0 kd_M_value_23 rfl ?_
      refine wq_get_ok (wq_getOK h0 hts ki_M hown hK (ci := 9) rfl 45 (Nat.le_of_ble_eq_true rfl) kw_1027 rfl) kd_M_value_24 ?_
      refine wq_iconst_ok h0 kd_M_value_27 (by decide +kernel) ?_
      refine wq_iload_n_ok h0 kd_M_value_28 rfl ?_
      refine wq_imul_ok h0 kd_M_value_29 ?_
      refine wq_iconst_ok h0 kd_M_value_30 (by decide +kernel) ?_
      refine wq_iadd_ok h0 kd_M_value_31 ?_
      refine wq_iald_ok h0 hK kd_M_value_32 ?_
      refine wq_i2l_ok h0 kd_M_value_33 ?_
      refine wq_last_ok h0 hK kd_M_value_34 ?_
      refine wq_iinc_ok h0 kd_M_value_35 (by decide +kernel) (Nat.le_of_ble_eq_true rfl) ?_
      refine wq_goto_ok (tgt := 4) h0 kd_M_value_38 (by decide) ?_
      exact wq_can_ok (hKc 4 (by decide))
    have hb_0 : wq_Snd p l e ({ frames := 1, cells := 0, slots := 0, locals := 29 } : Room) s m args below meth c 3 cs D kz_cl A (wq_G0 ad w) (wq_Q cs D kz_cl A (wq_G0 ad w) rt xt below s 0 0) 0 (kt_M_value_0 rt xt K) := by
      refine wq_iconst_ok h0 kd_M_value_0 (by decide +kernel) ?_
      refine wq_iload_n_ok h0 kd_M_value_1 rfl ?_
      refine wq_imul_ok h0 kd_M_value_2 ?_
      refine wq_istore_n_ok h0 kd_M_value_3 rfl (Nat.le_of_ble_eq_true rfl) ?_
      exact wq_can_ok (hKc 4 (by decide))
    refine ⟨?_, hb_0⟩
    exact List.forall_mem_cons.mpr ⟨hb_4, fun _ h => absurd h List.not_mem_nil⟩
  have hun : ∀ (n pc : Nat), pc ∈ [4] → wq_Snd p l e ({ frames := 1, cells := 0, slots := 0, locals := 29 } : Room) s m args below meth c 3 cs D kz_cl A (wq_G0 ad w) (wq_Q cs D kz_cl A (wq_G0 ad w) rt xt below s 0 0) pc (ku_M_value rt xt n pc) := by
    intro n
    induction n with
    | zero => intro pc _ L S w9 n1 n2 h; exact h.elim
    | succ n ih => intro pc hpc; exact (hall (ku_M_value rt xt n) ih).1 pc hpc
  exact (hall (ku_M_value rt xt 1000000000000) (hun 1000000000000)).2 _ _ _ _ _ (wq_sp_t hsp)
set_option maxRecDepth 100000 in
set_option maxHeartbeats 4000000 in
theorem kv_M_find {l : Launch} (hl : l.stackTraces = false) : wq_Vld l kz_cl ky_M_find kw_T ({ frames := 3, cells := 0, slots := 0, locals := 73 }) wq_G0 ks_M_find 0 0 := by
  refine wq_method (cc := kc_M_find) (maxL := 6) (ret := (some .boolean)) (by decide) kw_1330 (fun _ _ => rfl) wq_sp_sz ?_
  intro p e s m args below meth c cs D ad as w rt xt hF hnt hsp
  obtain ⟨h0, hr, hts, hown, hlk, hnm, hml, hK, hZ, hN, hA⟩ := hF
  have hown : s.vm.findClass "BorderDeskModel" = some m.cls := hown
  obtain ⟨A, hAe⟩ : ∃ A, A = wq_A ad w s.heap.size := ⟨_, rfl⟩
  rw [← hAe] at hZ hA ⊢
  have hall : ∀ K : Nat → wq_T, (∀ pc, pc ∈ [17] → wq_Snd p l e ({ frames := 3, cells := 0, slots := 0, locals := 73 } : Room) s m args below meth c 6 cs D kz_cl A (wq_G0 ad w) (wq_Q cs D kz_cl A (wq_G0 ad w) rt xt below s 0 0) pc (K pc)) → (∀ pc, pc ∈ [17] → wq_Snd p l e ({ frames := 3, cells := 0, slots := 0, locals := 73 } : Room) s m args below meth c 6 cs D kz_cl A (wq_G0 ad w) (wq_Q cs D kz_cl A (wq_G0 ad w) rt xt below s 0 0) pc (cond (Nat.beq pc 17) (kh_M_find_17 rt xt K) (fun _ _ _ _ _ => False))) ∧ wq_Snd p l e ({ frames := 3, cells := 0, slots := 0, locals := 73 } : Room) s m args below meth c 6 cs D kz_cl A (wq_G0 ad w) (wq_Q cs D kz_cl A (wq_G0 ad w) rt xt below s 0 0) 0 (kt_M_find_0 rt xt K) := by
    intro K hKc
    have hb_140 : wq_Snd p l e ({ frames := 3, cells := 0, slots := 0, locals := 73 } : Room) s m args below meth c 6 cs D kz_cl A (wq_G0 ad w) (wq_Q cs D kz_cl A (wq_G0 ad w) rt xt below s 0 0) 140 (kt_M_find_140 rt xt K) := by
      refine wq_iload_n_ok h0 kd_M_find_140 rfl ?_
      exact wq_zreturn_ok h0 hr hlk kd_M_find_141
    have hb_133 : wq_Snd p l e ({ frames := 3, cells := 0, slots := 0, locals := 73 } : Room) s m args below meth c 6 cs D kz_cl A (wq_G0 ad w) (wq_Q cs D kz_cl A (wq_G0 ad w) rt xt below s 0 0) 133 (kt_M_find_133 rt xt K) := by
      refine wq_istore_n_ok h0 kd_M_find_133 rfl (Nat.le_of_ble_eq_true rfl) ?_
      refine wq_iinc_ok h0 kd_M_find_134 (by decide +kernel) (Nat.le_of_ble_eq_true rfl) ?_
      refine wq_goto_ok (tgt := 17) h0 kd_M_find_137 (by decide) ?_
      exact wq_can_ok (hKc 17 (by decide))
    have hb_132 : wq_Snd p l e ({ frames := 3, cells := 0, slots := 0, locals := 73 } : Room) s m args below meth c 6 cs D kz_cl A (wq_G0 ad w) (wq_Q cs D kz_cl A (wq_G0 ad w) rt xt below s 0 0) 132 (kt_M_find_132 rt xt K) := by
      refine wq_iconst_ok h0 kd_M_find_132 (by decide +kernel) ?_
      exact hb_133
    have hb_114 : wq_Snd p l e ({ frames := 3, cells := 0, slots := 0, locals := 73 } : Room) s m args below meth c 6 cs D kz_cl A (wq_G0 ad w) (wq_Q cs D kz_cl A (wq_G0 ad w) rt xt below s 0 0) 114 (kt_M_find_114 rt xt K) := by
      refine wq_iast_ok h0 hK kd_M_find_114 ?_
      refine wq_iload_n_ok h0 kd_M_find_115 rfl ?_
      refine wq_if_eq_ok (tgt := 132) h0 kd_M_find_116 (by decide) ?_ ?_
      · exact hb_132
      refine wq_aload_n_ok h0 kd_M_find_119 rfl ?_
      refine wq_get_ok (wq_getOK h0 hts ki_M hown hK (ci := 9) rfl 52 (Nat.le_of_ble_eq_true rfl) kw_1034 rfl) kd_M_find_120 ?_
      refine wq_iload_n_ok h0 kd_M_find_123 rfl ?_
      refine wq_iald_ok h0 hK kd_M_find_124 ?_
      refine wq_if_lt_ok (tgt := 132) h0 kd_M_find_125 (by decide) ?_ ?_
      · exact hb_132
      refine wq_iconst_ok h0 kd_M_find_128 (by decide +kernel) ?_
      refine wq_goto_ok (tgt := 133) h0 kd_M_find_129 (by decide) ?_
      exact hb_133
    have hb_95 : wq_Snd p l e ({ frames := 3, cells := 0, slots := 0, locals := 73 } : Room) s m args below meth c 6 cs D kz_cl A (wq_G0 ad w) (wq_Q cs D kz_cl A (wq_G0 ad w) rt xt below s 0 0) 95 (kt_M_find_95 rt xt K) := by
      refine wq_aload_n_ok h0 kd_M_find_95 rfl ?_
      refine wq_iload_ok h0 kd_M_find_96 ?_
      refine wq_aload_n_ok h0 kd_M_find_98 rfl ?_
      refine wq_get_ok (wq_getOK h0 hts ki_M hown hK (ci := 9) rfl 43 (Nat.le_of_ble_eq_true rfl) kw_1025 rfl) kd_M_find_99 ?_
      refine wq_iload_ok h0 kd_M_find_102 ?_
      refine wq_iald_ok h0 hK kd_M_find_104 ?_
      refine wq_aload_n_ok h0 kd_M_find_105 rfl ?_
      refine wq_get_ok (wq_getOK h0 hts ki_M hown hK (ci := 9) rfl 36 (Nat.le_of_ble_eq_true rfl) kw_1018 rfl) kd_M_find_106 ?_
      refine wq_iload_n_ok h0 kd_M_find_109 rfl ?_
      refine wq_iald_ok h0 hK kd_M_find_110 ?_
      refine wq_call_ok hA (wq_runV (ci := 9) ⟨h0.1, h0.2, hml, hown, hts⟩ (kv_M_quotaOf hl) ⟨(wq_cB hts kw_G kw_1334 kw_10 kw_1331 ⟨by decide +kernel, by decide +kernel, by decide +kernel⟩ rfl rfl ⟨Nat.le_of_ble_eq_true rfl, Nat.le_of_ble_eq_true rfl⟩), hts _ kw_1333, hts _ kw_s44⟩ rfl rfl hK hZ hN hA kd_M_find_111) (wq_xout_ok hnt hlk) ?_
      exact hb_114
    have hb_80 : wq_Snd p l e ({ frames := 3, cells := 0, slots := 0, locals := 73 } : Room) s m args below meth c 6 cs D kz_cl A (wq_G0 ad w) (wq_Q cs D kz_cl A (wq_G0 ad w) rt xt below s 0 0) 80 (kt_M_find_80 rt xt K) := by
      refine wq_iast_ok h0 hK kd_M_find_80 ?_
      refine wq_aload_n_ok h0 kd_M_find_81 rfl ?_
      refine wq_get_ok (wq_getOK h0 hts ki_M hown hK (ci := 9) rfl 53 (Nat.le_of_ble_eq_true rfl) kw_1035 rfl) kd_M_find_82 ?_
      refine wq_iload_n_ok h0 kd_M_find_85 rfl ?_
      refine wq_iload_ok h0 kd_M_find_86 ?_
      refine wq_if_ge_ok (tgt := 95) h0 kd_M_find_88 (by decide) ?_ ?_
      · exact hb_95
      refine wq_iconst_ok h0 kd_M_find_91 (by decide +kernel) ?_
      refine wq_goto_ok (tgt := 114) h0 kd_M_find_92 (by decide) ?_
      exact hb_114
    have hb_61 : wq_Snd p l e ({ frames := 3, cells := 0, slots := 0, locals := 73 } : Room) s m args below meth c 6 cs D kz_cl A (wq_G0 ad w) (wq_Q cs D kz_cl A (wq_G0 ad w) rt xt below s 0 0) 61 (kt_M_find_61 rt xt K) := by
      refine wq_aload_n_ok h0 kd_M_find_61 rfl ?_
      refine wq_iload_ok h0 kd_M_find_62 ?_
      refine wq_aload_n_ok h0 kd_M_find_64 rfl ?_
      refine wq_get_ok (wq_getOK h0 hts ki_M hown hK (ci := 9) rfl 43 (Nat.le_of_ble_eq_true rfl) kw_1025 rfl) kd_M_find_65 ?_
      refine wq_iload_ok h0 kd_M_find_68 ?_
      refine wq_iald_ok h0 hK kd_M_find_70 ?_
      refine wq_aload_n_ok h0 kd_M_find_71 rfl ?_
      refine wq_get_ok (wq_getOK h0 hts ki_M hown hK (ci := 9) rfl 36 (Nat.le_of_ble_eq_true rfl) kw_1018 rfl) kd_M_find_72 ?_
      refine wq_iload_n_ok h0 kd_M_find_75 rfl ?_
      refine wq_iald_ok h0 hK kd_M_find_76 ?_
      refine wq_call_ok hA (wq_runV (ci := 9) ⟨h0.1, h0.2, hml, hown, hts⟩ (kv_M_rateOf hl) ⟨(wq_cB hts kw_G kw_1249 kw_10 kw_1246 ⟨by decide +kernel, by decide +kernel, by decide +kernel⟩ rfl rfl ⟨Nat.le_of_ble_eq_true rfl, Nat.le_of_ble_eq_true rfl⟩), hts _ kw_1248, hts _ kw_s35⟩ rfl rfl hK hZ hN hA kd_M_find_77) (wq_xout_ok hnt hlk) ?_
      exact hb_80
    have hb_17 : wq_Snd p l e ({ frames := 3, cells := 0, slots := 0, locals := 73 } : Room) s m args below meth c 6 cs D kz_cl A (wq_G0 ad w) (wq_Q cs D kz_cl A (wq_G0 ad w) rt xt below s 0 0) 17 (kh_M_find_17 rt xt K) := by
      refine wq_iload_n_ok h0 kd_M_find_17 rfl ?_
      refine wq_aload_n_ok h0 kd_M_find_18 rfl ?_
      refine wq_get_ok (wq_getOK h0 hts ki_M hown hK (ci := 9) rfl 38 (Nat.le_of_ble_eq_true rfl) kw_1020 rfl) kd_M_find_19 ?_
      refine wq_iload_n_ok h0 kd_M_find_22 rfl ?_
      refine wq_iald_ok h0 hK kd_M_find_23 ?_
      refine wq_icmp_ge_ok (tgt := 140) h0 kd_M_find_24 (by decide) ?_ ?_
      · exact hb_140
      refine wq_iconst_ok h0 kd_M_find_27 (by decide +kernel) ?_
      refine wq_iload_n_ok h0 kd_M_find_28 rfl ?_
      refine wq_imul_ok h0 kd_M_find_29 ?_
      refine wq_iload_n_ok h0 kd_M_find_30 rfl ?_
      refine wq_iadd_ok h0 kd_M_find_31 ?_
      refine wq_istore_ok h0 kd_M_find_32 (Nat.le_of_ble_eq_true rfl) ?_
      refine wq_aload_n_ok h0 kd_M_find_34 rfl ?_
      refine wq_aload_n_ok h0 kd_M_find_35 rfl ?_
      refine wq_get_ok (wq_getOK h0 hts ki_M hown hK (ci := 9) rfl 42 (Nat.le_of_ble_eq_true rfl) kw_1024 rfl) kd_M_find_36 ?_
      refine wq_iload_ok h0 kd_M_find_39 ?_
      refine wq_iald_ok h0 hK kd_M_find_41 ?_
      refine wq_call_ok hA (wq_runV (ci := 9) ⟨h0.1, h0.2, hml, hown, hts⟩ (kv_M_classOf hl) ⟨(wq_cB hts kw_G kw_1221 kw_10 kw_1218 ⟨by decide +kernel, by decide +kernel, by decide +kernel⟩ rfl rfl ⟨Nat.le_of_ble_eq_true rfl, Nat.le_of_ble_eq_true rfl⟩), hts _ kw_1220, hts _ kw_s30⟩ rfl rfl hK hZ hN hA kd_M_find_42) (wq_xout_ok hnt hlk) ?_
      refine wq_istore_ok h0 kd_M_find_45 (Nat.le_of_ble_eq_true rfl) ?_
      refine wq_aload_n_ok h0 kd_M_find_47 rfl ?_
      refine wq_get_ok (wq_getOK h0 hts ki_M hown hK (ci := 9) rfl 52 (Nat.le_of_ble_eq_true rfl) kw_1034 rfl) kd_M_find_48 ?_
      refine wq_iload_n_ok h0 kd_M_find_51 rfl ?_
      refine wq_iload_ok h0 kd_M_find_52 ?_
      refine wq_if_ge_ok (tgt := 61) h0 kd_M_find_54 (by decide) ?_ ?_
      · exact hb_61
      refine wq_iconst_ok h0 kd_M_find_57 (by decide +kernel) ?_
      refine wq_goto_ok (tgt := 80) h0 kd_M_find_58 (by decide) ?_
      exact hb_80
    have hb_14 : wq_Snd p l e ({ frames := 3, cells := 0, slots := 0, locals := 73 } : Room) s m args below meth c 6 cs D kz_cl A (wq_G0 ad w) (wq_Q cs D kz_cl A (wq_G0 ad w) rt xt below s 0 0) 14 (kt_M_find_14 rt xt K) := by
      refine wq_istore_n_ok h0 kd_M_find_14 rfl (Nat.le_of_ble_eq_true rfl) ?_
      refine wq_iconst_ok h0 kd_M_find_15 (by decide +kernel) ?_
      refine wq_istore_n_ok h0 kd_M_find_16 rfl (Nat.le_of_ble_eq_true rfl) ?_
      exact wq_can_ok (hKc 17 (by decide))
    have hb_13 : wq_Snd p l e ({ frames := 3, cells := 0, slots := 0, locals := 73 } : Room) s m args below meth c 6 cs D kz_cl A (wq_G0 ad w) (wq_Q cs D kz_cl A (wq_G0 ad w) rt xt below s 0 0) 13 (kt_M_find_13 rt xt K) := by
      refine wq_iconst_ok h0 kd_M_find_13 (by decide +kernel) ?_
      exact hb_14
    have hb_0 : wq_Snd p l e ({ frames := 3, cells := 0, slots := 0, locals := 73 } : Room) s m args below meth c 6 cs D kz_cl A (wq_G0 ad w) (wq_Q cs D kz_cl A (wq_G0 ad w) rt xt below s 0 0) 0 (kt_M_find_0 rt xt K) := by
      refine wq_aload_n_ok h0 kd_M_find_0 rfl ?_
      refine wq_get_ok (wq_getOK h0 hts ki_M hown hK (ci := 9) rfl 38 (Nat.le_of_ble_eq_true rfl) kw_1020 rfl) kd_M_find_1 ?_
      refine wq_iload_n_ok h0 kd_M_find_4 rfl ?_
      refine wq_iald_ok h0 hK kd_M_find_5 ?_
      refine wq_if_le_ok (tgt := 13) h0 kd_M_find_6 (by decide) ?_ ?_
      · exact hb_13
      refine wq_iconst_ok h0 kd_M_find_9 (by decide +kernel) ?_
      refine wq_goto_ok (tgt := 14) h0 kd_M_find_10 (by decide) ?_
      exact hb_14
    refine ⟨?_, hb_0⟩
    exact List.forall_mem_cons.mpr ⟨hb_17, fun _ h => absurd h List.not_mem_nil⟩
  have hun : ∀ (n pc : Nat), pc ∈ [17] → wq_Snd p l e ({ frames := 3, cells := 0, slots := 0, locals := 73 } : Room) s m args below meth c 6 cs D kz_cl A (wq_G0 ad w) (wq_Q cs D kz_cl A (wq_G0 ad w) rt xt below s 0 0) pc (ku_M_find rt xt n pc) := by
    intro n
    induction n with
    | zero => intro pc _ L S w9 n1 n2 h; exact h.elim
    | succ n ih => intro pc hpc; exact (hall (ku_M_find rt xt n) ih).1 pc hpc
  exact (hall (ku_M_find rt xt 1000000000000) (hun 1000000000000)).2 _ _ _ _ _ (wq_sp_t hsp)
set_option maxRecDepth 100000 in
set_option maxHeartbeats 4000000 in
theorem kv_M_dutyOf {l : Launch} (hl : l.stackTraces = false) : wq_Vld l kz_cl ky_M_dutyOf kw_T ({ frames := 0, cells := 0, slots := 0, locals := 0 }) wq_G0 ks_M_dutyOf 0 0 := by
  refine wq_method (cc := kc_M_dutyOf) (maxL := 19) (ret := (some .long)) (by decide) kw_1350 (fun _ _ => rfl) wq_sp_sz ?_
  intro p e s m args below meth c cs D ad as w rt xt hF hnt hsp
  obtain ⟨h0, hr, hts, hown, hlk, hnm, hml, hK, hZ, hN, hA⟩ := hF
  have hown : s.vm.findClass "BorderDeskModel" = some m.cls := hown
  obtain ⟨A, hAe⟩ : ∃ A, A = wq_A ad w s.heap.size := ⟨_, rfl⟩
  rw [← hAe] at hZ hA ⊢
  have hb_243 : wq_Snd p l e ({ frames := 0, cells := 0, slots := 0, locals := 0 } : Room) s m args below meth c 19 cs D kz_cl A (wq_G0 ad w) (wq_Q cs D kz_cl A (wq_G0 ad w) rt xt below s 0 0) 243 (kt_M_dutyOf_243 rt xt) := by
    exact wq_lreturn_ok h0 hr hlk kd_M_dutyOf_243
  have hb_241 : wq_Snd p l e ({ frames := 0, cells := 0, slots := 0, locals := 0 } : Room) s m args below meth c 19 cs D kz_cl A (wq_G0 ad w) (wq_Q cs D kz_cl A (wq_G0 ad w) rt xt below s 0 0) 241 (kt_M_dutyOf_241 rt xt) := by
    refine wq_lload_ok h0 kd_M_dutyOf_241 ?_
    exact hb_243
  have hb_194 : wq_Snd p l e ({ frames := 0, cells := 0, slots := 0, locals := 0 } : Room) s m args below meth c 19 cs D kz_cl A (wq_G0 ad w) (wq_Q cs D kz_cl A (wq_G0 ad w) rt xt below s 0 0) 194 (kt_M_dutyOf_194 rt xt) := by
    refine wq_lstore_ok h0 kd_M_dutyOf_194 (Nat.le_of_ble_eq_true rfl) ?_
    refine wq_lload_ok h0 kd_M_dutyOf_196 ?_
    refine wq_ldc2_ok (v := 10000) h0 hown (hts _ kw_1351) kd_M_dutyOf_198 ?_
    refine wq_lload_ok h0 kd_M_dutyOf_201 ?_
    refine wq_lmul_ok h0 kd_M_dutyOf_203 ?_
    refine wq_ldiv_ok h0 kd_M_dutyOf_204 ?_
    refine wq_lstore_ok h0 kd_M_dutyOf_205 (Nat.le_of_ble_eq_true rfl) ?_
    refine wq_lload_ok h0 kd_M_dutyOf_207 ?_
    refine wq_ldc2_ok (v := 10000) h0 hown (hts _ kw_1351) kd_M_dutyOf_209 ?_
    refine wq_lload_ok h0 kd_M_dutyOf_212 ?_
    refine wq_lmul_ok h0 kd_M_dutyOf_214 ?_
    refine wq_lrem_ok h0 kd_M_dutyOf_215 ?_
    refine wq_lstore_ok h0 kd_M_dutyOf_216 (Nat.le_of_ble_eq_true rfl) ?_
    refine wq_ldc2_ok (v := 2) h0 hown (hts _ kw_1352) kd_M_dutyOf_218 ?_
    refine wq_lload_ok h0 kd_M_dutyOf_221 ?_
    refine wq_lmul_ok h0 kd_M_dutyOf_223 ?_
    refine wq_ldc2_ok (v := 10000) h0 hown (hts _ kw_1351) kd_M_dutyOf_224 ?_
    refine wq_lload_ok h0 kd_M_dutyOf_227 ?_
    refine wq_lmul_ok h0 kd_M_dutyOf_229 ?_
    refine wq_lcmp_lt_ok (tgt := 241) h0 kd_M_dutyOf_230 kd_M_dutyOf_231 (by decide) ?_ ?_
    · exact hb_241
    refine wq_lload_ok h0 kd_M_dutyOf_234 ?_
    refine wq_lconst_ok h0 kd_M_dutyOf_236 (by decide +kernel) ?_
    refine wq_ladd_ok h0 kd_M_dutyOf_237 ?_
    refine wq_goto_ok (tgt := 243) h0 kd_M_dutyOf_238 (by decide) ?_
    exact hb_243
  have hb_164 : wq_Snd p l e ({ frames := 0, cells := 0, slots := 0, locals := 0 } : Room) s m args below meth c 19 cs D kz_cl A (wq_G0 ad w) (wq_Q cs D kz_cl A (wq_G0 ad w) rt xt below s 0 0) 164 (kt_M_dutyOf_164 rt xt) := by
    refine wq_lload_ok h0 kd_M_dutyOf_164 ?_
    refine wq_aload_n_ok h0 kd_M_dutyOf_166 rfl ?_
    refine wq_get_ok (wq_getOK h0 hts ki_M hown hK (ci := 9) rfl 21 (Nat.le_of_ble_eq_true rfl) kw_1003 rfl) kd_M_dutyOf_167 ?_
    refine wq_aload_n_ok h0 kd_M_dutyOf_170 rfl ?_
    refine wq_get_ok (wq_getOK h0 hts ki_M hown hK (ci := 9) rfl 53 (Nat.le_of_ble_eq_true rfl) kw_1035 rfl) kd_M_dutyOf_171 ?_
    refine wq_iload_n_ok h0 kd_M_dutyOf_174 rfl ?_
    refine wq_iald_ok h0 hK kd_M_dutyOf_175 ?_
    refine wq_iald_ok h0 hK kd_M_dutyOf_176 ?_
    refine wq_i2l_ok h0 kd_M_dutyOf_177 ?_
    refine wq_aload_n_ok h0 kd_M_dutyOf_178 rfl ?_
    refine wq_get_ok (wq_getOK h0 hts ki_M hown hK (ci := 9) rfl 46 (Nat.le_of_ble_eq_true rfl) kw_1028 rfl) kd_M_dutyOf_179 ?_
    refine wq_iload_n_ok h0 kd_M_dutyOf_182 rfl ?_
    refine wq_lald_ok h0 hK kd_M_dutyOf_183 ?_
    refine wq_lmul_ok h0 kd_M_dutyOf_184 ?_
    refine wq_aload_n_ok h0 kd_M_dutyOf_185 rfl ?_
    refine wq_get_ok (wq_getOK h0 hts ki_M hown hK (ci := 9) rfl 54 (Nat.le_of_ble_eq_true rfl) kw_1036 rfl) kd_M_dutyOf_186 ?_
    refine wq_iload_n_ok h0 kd_M_dutyOf_189 rfl ?_
    refine wq_iald_ok h0 hK kd_M_dutyOf_190 ?_
    refine wq_i2l_ok h0 kd_M_dutyOf_191 ?_
    refine wq_lmul_ok h0 kd_M_dutyOf_192 ?_
    refine wq_ladd_ok h0 kd_M_dutyOf_193 ?_
    exact hb_194
  have hb_133 : wq_Snd p l e ({ frames := 0, cells := 0, slots := 0, locals := 0 } : Room) s m args below meth c 19 cs D kz_cl A (wq_G0 ad w) (wq_Q cs D kz_cl A (wq_G0 ad w) rt xt below s 0 0) 133 (kt_M_dutyOf_133 rt xt) := by
    refine wq_lstore_ok h0 kd_M_dutyOf_133 (Nat.le_of_ble_eq_true rfl) ?_
    refine wq_lload_ok h0 kd_M_dutyOf_135 ?_
    refine wq_lload_ok h0 kd_M_dutyOf_137 ?_
    refine wq_aload_n_ok h0 kd_M_dutyOf_139 rfl ?_
    refine wq_get_ok (wq_getOK h0 hts ki_M hown hK (ci := 9) rfl 54 (Nat.le_of_ble_eq_true rfl) kw_1036 rfl) kd_M_dutyOf_140 ?_
    refine wq_iload_n_ok h0 kd_M_dutyOf_143 rfl ?_
    refine wq_iald_ok h0 hK kd_M_dutyOf_144 ?_
    refine wq_i2l_ok h0 kd_M_dutyOf_145 ?_
    refine wq_lsub_ok h0 kd_M_dutyOf_146 ?_
    refine wq_lmul_ok h0 kd_M_dutyOf_147 ?_
    refine wq_lstore_ok h0 kd_M_dutyOf_148 (Nat.le_of_ble_eq_true rfl) ?_
    refine wq_aload_n_ok h0 kd_M_dutyOf_150 rfl ?_
    refine wq_get_ok (wq_getOK h0 hts ki_M hown hK (ci := 9) rfl 53 (Nat.le_of_ble_eq_true rfl) kw_1035 rfl) kd_M_dutyOf_151 ?_
    refine wq_iload_n_ok h0 kd_M_dutyOf_154 rfl ?_
    refine wq_iald_ok h0 hK kd_M_dutyOf_155 ?_
    refine wq_if_ge_ok (tgt := 164) h0 kd_M_dutyOf_156 (by decide) ?_ ?_
    · exact hb_164
    refine wq_lload_ok h0 kd_M_dutyOf_159 ?_
    refine wq_goto_ok (tgt := 194) h0 kd_M_dutyOf_161 (by decide) ?_
    exact hb_194
  have hb_131 : wq_Snd p l e ({ frames := 0, cells := 0, slots := 0, locals := 0 } : Room) s m args below meth c 19 cs D kz_cl A (wq_G0 ad w) (wq_Q cs D kz_cl A (wq_G0 ad w) rt xt below s 0 0) 131 (kt_M_dutyOf_131 rt xt) := by
    refine wq_lload_ok h0 kd_M_dutyOf_131 ?_
    exact hb_133
  have hb_118 : wq_Snd p l e ({ frames := 0, cells := 0, slots := 0, locals := 0 } : Room) s m args below meth c 19 cs D kz_cl A (wq_G0 ad w) (wq_Q cs D kz_cl A (wq_G0 ad w) rt xt below s 0 0) 118 (kt_M_dutyOf_118 rt xt) := by
    refine wq_lload_ok h0 kd_M_dutyOf_118 ?_
    refine wq_lload_ok h0 kd_M_dutyOf_120 ?_
    refine wq_lcmp_le_ok (tgt := 131) h0 kd_M_dutyOf_122 kd_M_dutyOf_123 (by decide) ?_ ?_
    · exact hb_131
    refine wq_lload_ok h0 kd_M_dutyOf_126 ?_
    refine wq_goto_ok (tgt := 133) h0 kd_M_dutyOf_128 (by decide) ?_
    exact hb_133
  have hb_99 : wq_Snd p l e ({ frames := 0, cells := 0, slots := 0, locals := 0 } : Room) s m args below meth c 19 cs D kz_cl A (wq_G0 ad w) (wq_Q cs D kz_cl A (wq_G0 ad w) rt xt below s 0 0) 99 (kt_M_dutyOf_99 rt xt) := by
    refine wq_aload_n_ok h0 kd_M_dutyOf_99 rfl ?_
    refine wq_get_ok (wq_getOK h0 hts ki_M hown hK (ci := 9) rfl 13 (Nat.le_of_ble_eq_true rfl) kw_995 rfl) kd_M_dutyOf_100 ?_
    refine wq_iload_ok h0 kd_M_dutyOf_103 ?_
    refine wq_iald_ok h0 hK kd_M_dutyOf_105 ?_
    refine wq_iconst_ok h0 kd_M_dutyOf_106 (by decide +kernel) ?_
    refine wq_icmp_ne_ok (tgt := 118) h0 kd_M_dutyOf_107 (by decide) ?_ ?_
    · exact hb_118
    refine wq_lload_ok h0 kd_M_dutyOf_110 ?_
    refine wq_lload_ok h0 kd_M_dutyOf_112 ?_
    refine wq_ladd_ok h0 kd_M_dutyOf_114 ?_
    refine wq_goto_ok (tgt := 133) h0 kd_M_dutyOf_115 (by decide) ?_
    exact hb_133
  have hb_83 : wq_Snd p l e ({ frames := 0, cells := 0, slots := 0, locals := 0 } : Room) s m args below meth c 19 cs D kz_cl A (wq_G0 ad w) (wq_Q cs D kz_cl A (wq_G0 ad w) rt xt below s 0 0) 83 (kt_M_dutyOf_83 rt xt) := by
    refine wq_aload_n_ok h0 kd_M_dutyOf_83 rfl ?_
    refine wq_get_ok (wq_getOK h0 hts ki_M hown hK (ci := 9) rfl 13 (Nat.le_of_ble_eq_true rfl) kw_995 rfl) kd_M_dutyOf_84 ?_
    refine wq_iload_ok h0 kd_M_dutyOf_87 ?_
    refine wq_iald_ok h0 hK kd_M_dutyOf_89 ?_
    refine wq_iconst_ok h0 kd_M_dutyOf_90 (by decide +kernel) ?_
    refine wq_icmp_ne_ok (tgt := 99) h0 kd_M_dutyOf_91 (by decide) ?_ ?_
    · exact hb_99
    refine wq_lload_ok h0 kd_M_dutyOf_94 ?_
    refine wq_goto_ok (tgt := 133) h0 kd_M_dutyOf_96 (by decide) ?_
    exact hb_133
  have hb_0 : wq_Snd p l e ({ frames := 0, cells := 0, slots := 0, locals := 0 } : Room) s m args below meth c 19 cs D kz_cl A (wq_G0 ad w) (wq_Q cs D kz_cl A (wq_G0 ad w) rt xt below s 0 0) 0 (kt_M_dutyOf_0 rt xt) := by
    refine wq_iconst_ok h0 kd_M_dutyOf_0 (by decide +kernel) ?_
    refine wq_iload_n_ok h0 kd_M_dutyOf_1 rfl ?_
    refine wq_imul_ok h0 kd_M_dutyOf_2 ?_
    refine wq_iload_n_ok h0 kd_M_dutyOf_3 rfl ?_
    refine wq_iadd_ok h0 kd_M_dutyOf_4 ?_
    refine wq_istore_n_ok h0 kd_M_dutyOf_5 rfl (Nat.le_of_ble_eq_true rfl) ?_
    refine wq_aload_n_ok h0 kd_M_dutyOf_6 rfl ?_
    refine wq_get_ok (wq_getOK h0 hts ki_M hown hK (ci := 9) rfl 52 (Nat.le_of_ble_eq_true rfl) kw_1034 rfl) kd_M_dutyOf_7 ?_
    refine wq_iload_n_ok h0 kd_M_dutyOf_10 rfl ?_
    refine wq_iald_ok h0 hK kd_M_dutyOf_11 ?_
    refine wq_istore_ok h0 kd_M_dutyOf_12 (Nat.le_of_ble_eq_true rfl) ?_
    refine wq_aload_n_ok h0 kd_M_dutyOf_14 rfl ?_
    refine wq_get_ok (wq_getOK h0 hts ki_M hown hK (ci := 9) rfl 45 (Nat.le_of_ble_eq_true rfl) kw_1027 rfl) kd_M_dutyOf_15 ?_
    refine wq_iconst_ok h0 kd_M_dutyOf_18 (by decide +kernel) ?_
    refine wq_iload_n_ok h0 kd_M_dutyOf_19 rfl ?_
    refine wq_imul_ok h0 kd_M_dutyOf_20 ?_
    refine wq_iald_ok h0 hK kd_M_dutyOf_21 ?_
    refine wq_i2l_ok h0 kd_M_dutyOf_22 ?_
    refine wq_lstore_ok h0 kd_M_dutyOf_23 (Nat.le_of_ble_eq_true rfl) ?_
    refine wq_aload_n_ok h0 kd_M_dutyOf_25 rfl ?_
    refine wq_get_ok (wq_getOK h0 hts ki_M hown hK (ci := 9) rfl 14 (Nat.le_of_ble_eq_true rfl) kw_996 rfl) kd_M_dutyOf_26 ?_
    refine wq_iload_ok h0 kd_M_dutyOf_29 ?_
    refine wq_iald_ok h0 hK kd_M_dutyOf_31 ?_
    refine wq_i2l_ok h0 kd_M_dutyOf_32 ?_
    refine wq_aload_n_ok h0 kd_M_dutyOf_33 rfl ?_
    refine wq_get_ok (wq_getOK h0 hts ki_M hown hK (ci := 9) rfl 46 (Nat.le_of_ble_eq_true rfl) kw_1028 rfl) kd_M_dutyOf_34 ?_
    refine wq_iload_n_ok h0 kd_M_dutyOf_37 rfl ?_
    refine wq_lald_ok h0 hK kd_M_dutyOf_38 ?_
    refine wq_lmul_ok h0 kd_M_dutyOf_39 ?_
    refine wq_lstore_ok h0 kd_M_dutyOf_40 (Nat.le_of_ble_eq_true rfl) ?_
    refine wq_aload_n_ok h0 kd_M_dutyOf_42 rfl ?_
    refine wq_get_ok (wq_getOK h0 hts ki_M hown hK (ci := 9) rfl 15 (Nat.le_of_ble_eq_true rfl) kw_997 rfl) kd_M_dutyOf_43 ?_
    refine wq_iload_ok h0 kd_M_dutyOf_46 ?_
    refine wq_iald_ok h0 hK kd_M_dutyOf_48 ?_
    refine wq_i2l_ok h0 kd_M_dutyOf_49 ?_
    refine wq_aload_n_ok h0 kd_M_dutyOf_50 rfl ?_
    refine wq_get_ok (wq_getOK h0 hts ki_M hown hK (ci := 9) rfl 45 (Nat.le_of_ble_eq_true rfl) kw_1027 rfl) kd_M_dutyOf_51 ?_
    refine wq_iconst_ok h0 kd_M_dutyOf_54 (by decide +kernel) ?_
    refine wq_iload_n_ok h0 kd_M_dutyOf_55 rfl ?_
    refine wq_imul_ok h0 kd_M_dutyOf_56 ?_
    refine wq_iconst_ok h0 kd_M_dutyOf_57 (by decide +kernel) ?_
    refine wq_iadd_ok h0 kd_M_dutyOf_58 ?_
    refine wq_iald_ok h0 hK kd_M_dutyOf_59 ?_
    refine wq_i2l_ok h0 kd_M_dutyOf_60 ?_
    refine wq_lmul_ok h0 kd_M_dutyOf_61 ?_
    refine wq_ldc2_ok (v := 10000) h0 hown (hts _ kw_1351) kd_M_dutyOf_62 ?_
    refine wq_lmul_ok h0 kd_M_dutyOf_65 ?_
    refine wq_lstore_ok h0 kd_M_dutyOf_66 (Nat.le_of_ble_eq_true rfl) ?_
    refine wq_aload_n_ok h0 kd_M_dutyOf_68 rfl ?_
    refine wq_get_ok (wq_getOK h0 hts ki_M hown hK (ci := 9) rfl 13 (Nat.le_of_ble_eq_true rfl) kw_995 rfl) kd_M_dutyOf_69 ?_
    refine wq_iload_ok h0 kd_M_dutyOf_72 ?_
    refine wq_iald_ok h0 hK kd_M_dutyOf_74 ?_
    refine wq_if_ne_ok (tgt := 83) h0 kd_M_dutyOf_75 (by decide) ?_ ?_
    · exact hb_83
    refine wq_lload_ok h0 kd_M_dutyOf_78 ?_
    refine wq_goto_ok (tgt := 133) h0 kd_M_dutyOf_80 (by decide) ?_
    exact hb_133
  exact hb_0 _ _ _ _ _ (wq_sp_t hsp)
set_option maxRecDepth 100000 in
set_option maxHeartbeats 4000000 in
theorem kv_M_workOut {l : Launch} (hl : l.stackTraces = false) : wq_Vld l kz_cl ky_M_workOut kw_T ({ frames := 2, cells := 0, slots := 0, locals := 51 }) wq_G0 ks_M_workOut 0 0 := by
  refine wq_method (cc := kc_M_workOut) (maxL := 8) (ret := (some .long)) (by decide) kw_1346 (fun _ _ => rfl) wq_sp_sz ?_
  intro p e s m args below meth c cs D ad as w rt xt hF hnt hsp
  obtain ⟨h0, hr, hts, hown, hlk, hnm, hml, hK, hZ, hN, hA⟩ := hF
  have hown : s.vm.findClass "BorderDeskModel" = some m.cls := hown
  obtain ⟨A, hAe⟩ : ∃ A, A = wq_A ad w s.heap.size := ⟨_, rfl⟩
  rw [← hAe] at hZ hA ⊢
  have hall : ∀ K : Nat → wq_T, (∀ pc, pc ∈ [10] → wq_Snd p l e ({ frames := 2, cells := 0, slots := 0, locals := 51 } : Room) s m args below meth c 8 cs D kz_cl A (wq_G0 ad w) (wq_Q cs D kz_cl A (wq_G0 ad w) rt xt below s 0 0) pc (K pc)) → (∀ pc, pc ∈ [10] → wq_Snd p l e ({ frames := 2, cells := 0, slots := 0, locals := 51 } : Room) s m args below meth c 8 cs D kz_cl A (wq_G0 ad w) (wq_Q cs D kz_cl A (wq_G0 ad w) rt xt below s 0 0) pc (cond (Nat.beq pc 10) (kh_M_workOut_10 rt xt K) (fun _ _ _ _ _ => False))) ∧ wq_Snd p l e ({ frames := 2, cells := 0, slots := 0, locals := 51 } : Room) s m args below meth c 8 cs D kz_cl A (wq_G0 ad w) (wq_Q cs D kz_cl A (wq_G0 ad w) rt xt below s 0 0) 0 (kt_M_workOut_0 rt xt K) := by
    intro K hKc
    have hb_157 : wq_Snd p l e ({ frames := 2, cells := 0, slots := 0, locals := 51 } : Room) s m args below meth c 8 cs D kz_cl A (wq_G0 ad w) (wq_Q cs D kz_cl A (wq_G0 ad w) rt xt below s 0 0) 157 (kt_M_workOut_157 rt xt K) := by
      refine wq_lload_n_ok h0 kd_M_workOut_157 rfl ?_
      exact wq_lreturn_ok h0 hr hlk kd_M_workOut_158
    have hb_127 : wq_Snd p l e ({ frames := 2, cells := 0, slots := 0, locals := 51 } : Room) s m args below meth c 8 cs D kz_cl A (wq_G0 ad w) (wq_Q cs D kz_cl A (wq_G0 ad w) rt xt below s 0 0) 127 (kt_M_workOut_127 rt xt K) := by
      refine wq_aload_n_ok h0 kd_M_workOut_127 rfl ?_
      refine wq_get_ok (wq_getOK h0 hts ki_M hown hK (ci := 9) rfl 55 (Nat.le_of_ble_eq_true rfl) kw_1037 rfl) kd_M_workOut_128 ?_
      refine wq_iload_ok h0 kd_M_workOut_131 ?_
      refine wq_aload_n_ok h0 kd_M_workOut_133 rfl ?_
      refine wq_iload_n_ok h0 kd_M_workOut_134 rfl ?_
      refine wq_iload_ok h0 kd_M_workOut_135 ?_
      refine wq_call_ok hA (wq_runV (ci := 9) ⟨h0.1, h0.2, hml, hown, hts⟩ (kv_M_dutyOf hl) ⟨(wq_cB hts kw_G kw_1350 kw_10 kw_1347 ⟨by decide +kernel, by decide +kernel, by decide +kernel⟩ rfl rfl ⟨Nat.le_of_ble_eq_true rfl, Nat.le_of_ble_eq_true rfl⟩), hts _ kw_1349, hts _ kw_s48⟩ rfl rfl hK hZ hN hA kd_M_workOut_137) (wq_xout_ok hnt hlk) ?_
      refine wq_last_ok h0 hK kd_M_workOut_140 ?_
      refine wq_lload_n_ok h0 kd_M_workOut_141 rfl ?_
      refine wq_aload_n_ok h0 kd_M_workOut_142 rfl ?_
      refine wq_get_ok (wq_getOK h0 hts ki_M hown hK (ci := 9) rfl 55 (Nat.le_of_ble_eq_true rfl) kw_1037 rfl) kd_M_workOut_143 ?_
      refine wq_iload_ok h0 kd_M_workOut_146 ?_
      refine wq_lald_ok h0 hK kd_M_workOut_148 ?_
      refine wq_ladd_ok h0 kd_M_workOut_149 ?_
      refine wq_lstore_n_ok h0 kd_M_workOut_150 rfl (Nat.le_of_ble_eq_true rfl) ?_
      refine wq_iinc_ok h0 kd_M_workOut_151 (by decide +kernel) (Nat.le_of_ble_eq_true rfl) ?_
      refine wq_goto_ok (tgt := 10) h0 kd_M_workOut_154 (by decide) ?_
      exact wq_can_ok (hKc 10 (by decide))
    have hb_86 : wq_Snd p l e ({ frames := 2, cells := 0, slots := 0, locals := 51 } : Room) s m args below meth c 8 cs D kz_cl A (wq_G0 ad w) (wq_Q cs D kz_cl A (wq_G0 ad w) rt xt below s 0 0) 86 (kt_M_workOut_86 rt xt K) := by
      refine wq_istore_ok h0 kd_M_workOut_86 (Nat.le_of_ble_eq_true rfl) ?_
      refine wq_aload_n_ok h0 kd_M_workOut_88 rfl ?_
      refine wq_get_ok (wq_getOK h0 hts ki_M hown hK (ci := 9) rfl 54 (Nat.le_of_ble_eq_true rfl) kw_1036 rfl) kd_M_workOut_89 ?_
      refine wq_iload_ok h0 kd_M_workOut_92 ?_
      refine wq_aload_n_ok h0 kd_M_workOut_94 rfl ?_
      refine wq_get_ok (wq_getOK h0 hts ki_M hown hK (ci := 9) rfl 54 (Nat.le_of_ble_eq_true rfl) kw_1036 rfl) kd_M_workOut_95 ?_
      refine wq_iload_ok h0 kd_M_workOut_98 ?_
      refine wq_iald_ok h0 hK kd_M_workOut_100 ?_
      refine wq_iload_ok h0 kd_M_workOut_101 ?_
      refine wq_iadd_ok h0 kd_M_workOut_103 ?_
      refine wq_iast_ok h0 hK kd_M_workOut_104 ?_
      refine wq_iload_ok h0 kd_M_workOut_105 ?_
      refine wq_if_lt_ok (tgt := 127) h0 kd_M_workOut_107 (by decide) ?_ ?_
      · exact hb_127
      refine wq_aload_n_ok h0 kd_M_workOut_110 rfl ?_
      refine wq_get_ok (wq_getOK h0 hts ki_M hown hK (ci := 9) rfl 25 (Nat.le_of_ble_eq_true rfl) kw_1007 rfl) kd_M_workOut_111 ?_
      refine wq_iload_ok h0 kd_M_workOut_114 ?_
      refine wq_aload_n_ok h0 kd_M_workOut_116 rfl ?_
      refine wq_get_ok (wq_getOK h0 hts ki_M hown hK (ci := 9) rfl 25 (Nat.le_of_ble_eq_true rfl) kw_1007 rfl) kd_M_workOut_117 ?_
      refine wq_iload_ok h0 kd_M_workOut_120 ?_
      refine wq_iald_ok h0 hK kd_M_workOut_122 ?_
      refine wq_iload_ok h0 kd_M_workOut_123 ?_
      refine wq_isub_ok h0 kd_M_workOut_125 ?_
      refine wq_iast_ok h0 hK kd_M_workOut_126 ?_
      exact hb_127
    have hb_79 : wq_Snd p l e ({ frames := 2, cells := 0, slots := 0, locals := 51 } : Room) s m args below meth c 8 cs D kz_cl A (wq_G0 ad w) (wq_Q cs D kz_cl A (wq_G0 ad w) rt xt below s 0 0) 79 (kt_M_workOut_79 rt xt K) := by
      refine wq_aload_n_ok h0 kd_M_workOut_79 rfl ?_
      refine wq_get_ok (wq_getOK h0 hts ki_M hown hK (ci := 9) rfl 25 (Nat.le_of_ble_eq_true rfl) kw_1007 rfl) kd_M_workOut_80 ?_
      refine wq_iload_ok h0 kd_M_workOut_83 ?_
      refine wq_iald_ok h0 hK kd_M_workOut_85 ?_
      exact hb_86
    have hb_62 : wq_Snd p l e ({ frames := 2, cells := 0, slots := 0, locals := 51 } : Room) s m args below meth c 8 cs D kz_cl A (wq_G0 ad w) (wq_Q cs D kz_cl A (wq_G0 ad w) rt xt below s 0 0) 62 (kt_M_workOut_62 rt xt K) := by
      refine wq_iload_ok h0 kd_M_workOut_62 ?_
      refine wq_aload_n_ok h0 kd_M_workOut_64 rfl ?_
      refine wq_get_ok (wq_getOK h0 hts ki_M hown hK (ci := 9) rfl 25 (Nat.le_of_ble_eq_true rfl) kw_1007 rfl) kd_M_workOut_65 ?_
      refine wq_iload_ok h0 kd_M_workOut_68 ?_
      refine wq_iald_ok h0 hK kd_M_workOut_70 ?_
      refine wq_icmp_ge_ok (tgt := 79) h0 kd_M_workOut_71 (by decide) ?_ ?_
      · exact hb_79
      refine wq_iload_ok h0 kd_M_workOut_74 ?_
      refine wq_goto_ok (tgt := 86) h0 kd_M_workOut_76 (by decide) ?_
      exact hb_86
    have hb_10 : wq_Snd p l e ({ frames := 2, cells := 0, slots := 0, locals := 51 } : Room) s m args below meth c 8 cs D kz_cl A (wq_G0 ad w) (wq_Q cs D kz_cl A (wq_G0 ad w) rt xt below s 0 0) 10 (kh_M_workOut_10 rt xt K) := by
      refine wq_iload_ok h0 kd_M_workOut_10 ?_
      refine wq_aload_n_ok h0 kd_M_workOut_12 rfl ?_
      refine wq_get_ok (wq_getOK h0 hts ki_M hown hK (ci := 9) rfl 38 (Nat.le_of_ble_eq_true rfl) kw_1020 rfl) kd_M_workOut_13 ?_
      refine wq_iload_n_ok h0 kd_M_workOut_16 rfl ?_
      refine wq_iald_ok h0 hK kd_M_workOut_17 ?_
      refine wq_icmp_ge_ok (tgt := 157) h0 kd_M_workOut_18 (by decide) ?_ ?_
      · exact hb_157
      refine wq_aload_n_ok h0 kd_M_workOut_21 rfl ?_
      refine wq_get_ok (wq_getOK h0 hts ki_M hown hK (ci := 9) rfl 53 (Nat.le_of_ble_eq_true rfl) kw_1035 rfl) kd_M_workOut_22 ?_
      refine wq_iload_ok h0 kd_M_workOut_25 ?_
      refine wq_iald_ok h0 hK kd_M_workOut_27 ?_
      refine wq_istore_ok h0 kd_M_workOut_28 (Nat.le_of_ble_eq_true rfl) ?_
      refine wq_aload_n_ok h0 kd_M_workOut_30 rfl ?_
      refine wq_get_ok (wq_getOK h0 hts ki_M hown hK (ci := 9) rfl 45 (Nat.le_of_ble_eq_true rfl) kw_1027 rfl) kd_M_workOut_31 ?_
      refine wq_iconst_ok h0 kd_M_workOut_34 (by decide +kernel) ?_
      refine wq_iconst_ok h0 kd_M_workOut_35 (by decide +kernel) ?_
      refine wq_iload_n_ok h0 kd_M_workOut_36 rfl ?_
      refine wq_imul_ok h0 kd_M_workOut_37 ?_
      refine wq_iload_ok h0 kd_M_workOut_38 ?_
      refine wq_iadd_ok h0 kd_M_workOut_40 ?_
      refine wq_imul_ok h0 kd_M_workOut_41 ?_
      refine wq_iald_ok h0 hK kd_M_workOut_42 ?_
      refine wq_aload_n_ok h0 kd_M_workOut_43 rfl ?_
      refine wq_get_ok (wq_getOK h0 hts ki_M hown hK (ci := 9) rfl 54 (Nat.le_of_ble_eq_true rfl) kw_1036 rfl) kd_M_workOut_44 ?_
      refine wq_iload_ok h0 kd_M_workOut_47 ?_
      refine wq_iald_ok h0 hK kd_M_workOut_49 ?_
      refine wq_isub_ok h0 kd_M_workOut_50 ?_
      refine wq_istore_ok h0 kd_M_workOut_51 (Nat.le_of_ble_eq_true rfl) ?_
      refine wq_iload_ok h0 kd_M_workOut_53 ?_
      refine wq_if_ge_ok (tgt := 62) h0 kd_M_workOut_55 (by decide) ?_ ?_
      · exact hb_62
      refine wq_iconst_ok h0 kd_M_workOut_58 (by decide +kernel) ?_
      refine wq_goto_ok (tgt := 86) h0 kd_M_workOut_59 (by decide) ?_
      exact hb_86
    have hb_0 : wq_Snd p l e ({ frames := 2, cells := 0, slots := 0, locals := 51 } : Room) s m args below meth c 8 cs D kz_cl A (wq_G0 ad w) (wq_Q cs D kz_cl A (wq_G0 ad w) rt xt below s 0 0) 0 (kt_M_workOut_0 rt xt K) := by
      refine wq_aload_n_ok h0 kd_M_workOut_0 rfl ?_
      refine wq_iload_n_ok h0 kd_M_workOut_1 rfl ?_
      refine wq_call_ok hA (wq_runV (ci := 9) ⟨h0.1, h0.2, hml, hown, hts⟩ (kv_M_value hl) ⟨(wq_cB hts kw_G kw_1321 kw_10 kw_1318 ⟨by decide +kernel, by decide +kernel, by decide +kernel⟩ rfl rfl ⟨Nat.le_of_ble_eq_true rfl, Nat.le_of_ble_eq_true rfl⟩), hts _ kw_1320, hts _ kw_s41⟩ rfl rfl hK hZ hN hA kd_M_workOut_2) (wq_xout_ok hnt hlk) ?_
      refine wq_lconst_ok h0 kd_M_workOut_5 (by decide +kernel) ?_
      refine wq_lstore_n_ok h0 kd_M_workOut_6 rfl (Nat.le_of_ble_eq_true rfl) ?_
      refine wq_iconst_ok h0 kd_M_workOut_7 (by decide +kernel) ?_
      refine wq_istore_ok h0 kd_M_workOut_8 (Nat.le_of_ble_eq_true rfl) ?_
      exact wq_can_ok (hKc 10 (by decide))
    refine ⟨?_, hb_0⟩
    exact List.forall_mem_cons.mpr ⟨hb_10, fun _ h => absurd h List.not_mem_nil⟩
  have hun : ∀ (n pc : Nat), pc ∈ [10] → wq_Snd p l e ({ frames := 2, cells := 0, slots := 0, locals := 51 } : Room) s m args below meth c 8 cs D kz_cl A (wq_G0 ad w) (wq_Q cs D kz_cl A (wq_G0 ad w) rt xt below s 0 0) pc (ku_M_workOut rt xt n pc) := by
    intro n
    induction n with
    | zero => intro pc _ L S w9 n1 n2 h; exact h.elim
    | succ n ih => intro pc hpc; exact (hall (ku_M_workOut rt xt n) ih).1 pc hpc
  exact (hall (ku_M_workOut rt xt 1000000000000) (hun 1000000000000)).2 _ _ _ _ _ (wq_sp_t hsp)
set_option maxRecDepth 100000 in
set_option maxHeartbeats 4000000 in
theorem kv_M_mean {l : Launch} (hl : l.stackTraces = false) : wq_Vld l kz_cl ky_M_mean kw_T ({ frames := 0, cells := 0, slots := 0, locals := 0 }) wq_G0 ks_M_mean 0 0 := by
  refine wq_method (cc := kc_M_mean) (maxL := 2) (ret := none) (by decide) kw_1342 (fun _ _ => rfl) wq_sp_sz ?_
  intro p e s m args below meth c cs D ad as w rt xt hF hnt hsp
  obtain ⟨h0, hr, hts, hown, hlk, hnm, hml, hK, hZ, hN, hA⟩ := hF
  have hown : s.vm.findClass "BorderDeskModel" = some m.cls := hown
  obtain ⟨A, hAe⟩ : ∃ A, A = wq_A ad w s.heap.size := ⟨_, rfl⟩
  rw [← hAe] at hZ hA ⊢
  have hall : ∀ K : Nat → wq_T, (∀ pc, pc ∈ [2] → wq_Snd p l e ({ frames := 0, cells := 0, slots := 0, locals := 0 } : Room) s m args below meth c 2 cs D kz_cl A (wq_G0 ad w) (wq_Q cs D kz_cl A (wq_G0 ad w) rt xt below s 0 0) pc (K pc)) → (∀ pc, pc ∈ [2] → wq_Snd p l e ({ frames := 0, cells := 0, slots := 0, locals := 0 } : Room) s m args below meth c 2 cs D kz_cl A (wq_G0 ad w) (wq_Q cs D kz_cl A (wq_G0 ad w) rt xt below s 0 0) pc (cond (Nat.beq pc 2) (kh_M_mean_2 rt xt K) (fun _ _ _ _ _ => False))) ∧ wq_Snd p l e ({ frames := 0, cells := 0, slots := 0, locals := 0 } : Room) s m args below meth c 2 cs D kz_cl A (wq_G0 ad w) (wq_Q cs D kz_cl A (wq_G0 ad w) rt xt below s 0 0) 0 (kt_M_mean_0 rt xt K) := by
    intro K hKc
    have hb_28 : wq_Snd p l e ({ frames := 0, cells := 0, slots := 0, locals := 0 } : Room) s m args below meth c 2 cs D kz_cl A (wq_G0 ad w) (wq_Q cs D kz_cl A (wq_G0 ad w) rt xt below s 0 0) 28 (kt_M_mean_28 rt xt K) := by
      exact wq_vreturn_ok h0 hr hlk kd_M_mean_28
    have hb_2 : wq_Snd p l e ({ frames := 0, cells := 0, slots := 0, locals := 0 } : Room) s m args below meth c 2 cs D kz_cl A (wq_G0 ad w) (wq_Q cs D kz_cl A (wq_G0 ad w) rt xt below s 0 0) 2 (kh_M_mean_2 rt xt K) := by
      refine wq_iload_n_ok h0 kd_M_mean_2 rfl ?_
      refine wq_aload_n_ok h0 kd_M_mean_3 rfl ?_
      refine wq_get_ok (wq_getOK h0 hts ki_M hown hK (ci := 9) rfl 18 (Nat.le_of_ble_eq_true rfl) kw_1000 rfl) kd_M_mean_4 ?_
      refine wq_icmp_ge_ok (tgt := 28) h0 kd_M_mean_7 (by decide) ?_ ?_
      · exact hb_28
      refine wq_aload_n_ok h0 kd_M_mean_10 rfl ?_
      refine wq_get_ok (wq_getOK h0 hts ki_M hown hK (ci := 9) rfl 25 (Nat.le_of_ble_eq_true rfl) kw_1007 rfl) kd_M_mean_11 ?_
      refine wq_iload_n_ok h0 kd_M_mean_14 rfl ?_
      refine wq_aload_n_ok h0 kd_M_mean_15 rfl ?_
      refine wq_get_ok (wq_getOK h0 hts ki_M hown hK (ci := 9) rfl 24 (Nat.le_of_ble_eq_true rfl) kw_1006 rfl) kd_M_mean_16 ?_
      refine wq_iload_n_ok h0 kd_M_mean_19 rfl ?_
      refine wq_iald_ok h0 hK kd_M_mean_20 ?_
      refine wq_iast_ok h0 hK kd_M_mean_21 ?_
      refine wq_iinc_ok h0 kd_M_mean_22 (by decide +kernel) (Nat.le_of_ble_eq_true rfl) ?_
      refine wq_goto_ok (tgt := 2) h0 kd_M_mean_25 (by decide) ?_
      exact wq_can_ok (hKc 2 (by decide))
    have hb_0 : wq_Snd p l e ({ frames := 0, cells := 0, slots := 0, locals := 0 } : Room) s m args below meth c 2 cs D kz_cl A (wq_G0 ad w) (wq_Q cs D kz_cl A (wq_G0 ad w) rt xt below s 0 0) 0 (kt_M_mean_0 rt xt K) := by
      refine wq_iconst_ok h0 kd_M_mean_0 (by decide +kernel) ?_
      refine wq_istore_n_ok h0 kd_M_mean_1 rfl (Nat.le_of_ble_eq_true rfl) ?_
      exact wq_can_ok (hKc 2 (by decide))
    refine ⟨?_, hb_0⟩
    exact List.forall_mem_cons.mpr ⟨hb_2, fun _ h => absurd h List.not_mem_nil⟩
  have hun : ∀ (n pc : Nat), pc ∈ [2] → wq_Snd p l e ({ frames := 0, cells := 0, slots := 0, locals := 0 } : Room) s m args below meth c 2 cs D kz_cl A (wq_G0 ad w) (wq_Q cs D kz_cl A (wq_G0 ad w) rt xt below s 0 0) pc (ku_M_mean rt xt n pc) := by
    intro n
    induction n with
    | zero => intro pc _ L S w9 n1 n2 h; exact h.elim
    | succ n ih => intro pc hpc; exact (hall (ku_M_mean rt xt n) ih).1 pc hpc
  exact (hall (ku_M_mean rt xt 1000000000000) (hun 1000000000000)).2 _ _ _ _ _ (wq_sp_t hsp)
set_option maxRecDepth 100000 in
set_option maxHeartbeats 4000000 in
theorem kv_M_assess {l : Launch} (hl : l.stackTraces = false) : wq_Vld l kz_cl ky_M_assess kw_T ({ frames := 3, cells := 0, slots := 0, locals := 78 }) wq_G0 ks_M_assess 0 0 := by
  refine wq_method (cc := kc_M_assess) (maxL := 3) (ret := (some .long)) (by decide) kw_1338 (fun _ _ => rfl) wq_sp_sz ?_
  intro p e s m args below meth c cs D ad as w rt xt hF hnt hsp
  obtain ⟨h0, hr, hts, hown, hlk, hnm, hml, hK, hZ, hN, hA⟩ := hF
  have hown : s.vm.findClass "BorderDeskModel" = some m.cls := hown
  obtain ⟨A, hAe⟩ : ∃ A, A = wq_A ad w s.heap.size := ⟨_, rfl⟩
  rw [← hAe] at hZ hA ⊢
  have hall : ∀ K : Nat → wq_T, (∀ pc, pc ∈ [6] → wq_Snd p l e ({ frames := 3, cells := 0, slots := 0, locals := 78 } : Room) s m args below meth c 3 cs D kz_cl A (wq_G0 ad w) (wq_Q cs D kz_cl A (wq_G0 ad w) rt xt below s 0 0) pc (K pc)) → (∀ pc, pc ∈ [6] → wq_Snd p l e ({ frames := 3, cells := 0, slots := 0, locals := 78 } : Room) s m args below meth c 3 cs D kz_cl A (wq_G0 ad w) (wq_Q cs D kz_cl A (wq_G0 ad w) rt xt below s 0 0) pc (cond (Nat.beq pc 6) (kh_M_assess_6 rt xt K) (fun _ _ _ _ _ => False))) ∧ wq_Snd p l e ({ frames := 3, cells := 0, slots := 0, locals := 78 } : Room) s m args below meth c 3 cs D kz_cl A (wq_G0 ad w) (wq_Q cs D kz_cl A (wq_G0 ad w) rt xt below s 0 0) 0 (kt_M_assess_0 rt xt K) := by
    intro K hKc
    have hb_24 : wq_Snd p l e ({ frames := 3, cells := 0, slots := 0, locals := 78 } : Room) s m args below meth c 3 cs D kz_cl A (wq_G0 ad w) (wq_Q cs D kz_cl A (wq_G0 ad w) rt xt below s 0 0) 24 (kt_M_assess_24 rt xt K) := by
      refine wq_aload_n_ok h0 kd_M_assess_24 rfl ?_
      refine wq_iload_n_ok h0 kd_M_assess_25 rfl ?_
      refine wq_call_ok hA (wq_runV (ci := 9) ⟨h0.1, h0.2, hml, hown, hts⟩ (kv_M_workOut hl) ⟨(wq_cB hts kw_G kw_1346 kw_10 kw_1343 ⟨by decide +kernel, by decide +kernel, by decide +kernel⟩ rfl rfl ⟨Nat.le_of_ble_eq_true rfl, Nat.le_of_ble_eq_true rfl⟩), hts _ kw_1345, hts _ kw_s47⟩ rfl rfl hK hZ hN hA kd_M_assess_26) (wq_xout_ok hnt hlk) ?_
      exact wq_lreturn_ok h0 hr hlk kd_M_assess_29
    have hb_6 : wq_Snd p l e ({ frames := 3, cells := 0, slots := 0, locals := 78 } : Room) s m args below meth c 3 cs D kz_cl A (wq_G0 ad w) (wq_Q cs D kz_cl A (wq_G0 ad w) rt xt below s 0 0) 6 (kh_M_assess_6 rt xt K) := by
      refine wq_iload_n_ok h0 kd_M_assess_6 rfl ?_
      refine wq_iconst_ok h0 kd_M_assess_7 (by decide +kernel) ?_
      refine wq_icmp_ge_ok (tgt := 24) h0 kd_M_assess_8 (by decide) ?_ ?_
      · exact hb_24
      refine wq_aload_n_ok h0 kd_M_assess_11 rfl ?_
      refine wq_get_ok (wq_getOK h0 hts ki_M hown hK (ci := 9) rfl 54 (Nat.le_of_ble_eq_true rfl) kw_1036 rfl) kd_M_assess_12 ?_
      refine wq_iload_n_ok h0 kd_M_assess_15 rfl ?_
      refine wq_iconst_ok h0 kd_M_assess_16 (by decide +kernel) ?_
      refine wq_iast_ok h0 hK kd_M_assess_17 ?_
      refine wq_iinc_ok h0 kd_M_assess_18 (by decide +kernel) (Nat.le_of_ble_eq_true rfl) ?_
      refine wq_goto_ok (tgt := 6) h0 kd_M_assess_21 (by decide) ?_
      exact wq_can_ok (hKc 6 (by decide))
    have hb_0 : wq_Snd p l e ({ frames := 3, cells := 0, slots := 0, locals := 78 } : Room) s m args below meth c 3 cs D kz_cl A (wq_G0 ad w) (wq_Q cs D kz_cl A (wq_G0 ad w) rt xt below s 0 0) 0 (kt_M_assess_0 rt xt K) := by
      refine wq_aload_n_ok h0 kd_M_assess_0 rfl ?_
      refine wq_call_ok hA (wq_runV (ci := 9) ⟨h0.1, h0.2, hml, hown, hts⟩ (kv_M_mean hl) ⟨(wq_cB hts kw_G kw_1342 kw_10 kw_1339 ⟨by decide +kernel, by decide +kernel, by decide +kernel⟩ rfl rfl ⟨Nat.le_of_ble_eq_true rfl, Nat.le_of_ble_eq_true rfl⟩), hts _ kw_1341, hts _ kw_s46⟩ rfl rfl hK hZ hN hA kd_M_assess_1) (wq_xout_ok hnt hlk) ?_
      refine wq_iconst_ok h0 kd_M_assess_4 (by decide +kernel) ?_
      refine wq_istore_n_ok h0 kd_M_assess_5 rfl (Nat.le_of_ble_eq_true rfl) ?_
      exact wq_can_ok (hKc 6 (by decide))
    refine ⟨?_, hb_0⟩
    exact List.forall_mem_cons.mpr ⟨hb_6, fun _ h => absurd h List.not_mem_nil⟩
  have hun : ∀ (n pc : Nat), pc ∈ [6] → wq_Snd p l e ({ frames := 3, cells := 0, slots := 0, locals := 78 } : Room) s m args below meth c 3 cs D kz_cl A (wq_G0 ad w) (wq_Q cs D kz_cl A (wq_G0 ad w) rt xt below s 0 0) pc (ku_M_assess rt xt n pc) := by
    intro n
    induction n with
    | zero => intro pc _ L S w9 n1 n2 h; exact h.elim
    | succ n ih => intro pc hpc; exact (hall (ku_M_assess rt xt n) ih).1 pc hpc
  exact (hall (ku_M_assess rt xt 1000000000000) (hun 1000000000000)).2 _ _ _ _ _ (wq_sp_t hsp)
set_option maxRecDepth 100000 in
set_option maxHeartbeats 4000000 in
theorem kv_M_book {l : Launch} (hl : l.stackTraces = false) : wq_Vld l kz_cl ky_M_book kw_T ({ frames := 0, cells := 0, slots := 0, locals := 0 }) wq_G0 ks_M_book 0 0 := by
  refine wq_method (cc := kc_M_book) (maxL := 3) (ret := none) (by decide) kw_1364 (fun _ _ => rfl) wq_sp_sz ?_
  intro p e s m args below meth c cs D ad as w rt xt hF hnt hsp
  obtain ⟨h0, hr, hts, hown, hlk, hnm, hml, hK, hZ, hN, hA⟩ := hF
  have hown : s.vm.findClass "BorderDeskModel" = some m.cls := hown
  obtain ⟨A, hAe⟩ : ∃ A, A = wq_A ad w s.heap.size := ⟨_, rfl⟩
  rw [← hAe] at hZ hA ⊢
  have hall : ∀ K : Nat → wq_T, (∀ pc, pc ∈ [2, 30] → wq_Snd p l e ({ frames := 0, cells := 0, slots := 0, locals := 0 } : Room) s m args below meth c 3 cs D kz_cl A (wq_G0 ad w) (wq_Q cs D kz_cl A (wq_G0 ad w) rt xt below s 0 0) pc (K pc)) → (∀ pc, pc ∈ [2, 30] → wq_Snd p l e ({ frames := 0, cells := 0, slots := 0, locals := 0 } : Room) s m args below meth c 3 cs D kz_cl A (wq_G0 ad w) (wq_Q cs D kz_cl A (wq_G0 ad w) rt xt below s 0 0) pc (cond (Nat.beq pc 2) (kh_M_book_2 rt xt K) (cond (Nat.beq pc 30) (kh_M_book_30 rt xt K) (fun _ _ _ _ _ => False)))) ∧ wq_Snd p l e ({ frames := 0, cells := 0, slots := 0, locals := 0 } : Room) s m args below meth c 3 cs D kz_cl A (wq_G0 ad w) (wq_Q cs D kz_cl A (wq_G0 ad w) rt xt below s 0 0) 0 (kt_M_book_0 rt xt K) := by
    intro K hKc
    have hb_28 : wq_Snd p l e ({ frames := 0, cells := 0, slots := 0, locals := 0 } : Room) s m args below meth c 3 cs D kz_cl A (wq_G0 ad w) (wq_Q cs D kz_cl A (wq_G0 ad w) rt xt below s 0 0) 28 (kt_M_book_28 rt xt K) := by
      refine wq_iconst_ok h0 kd_M_book_28 (by decide +kernel) ?_
      refine wq_istore_n_ok h0 kd_M_book_29 rfl (Nat.le_of_ble_eq_true rfl) ?_
      exact wq_can_ok (hKc 30 (by decide))
    have hb_2 : wq_Snd p l e ({ frames := 0, cells := 0, slots := 0, locals := 0 } : Room) s m args below meth c 3 cs D kz_cl A (wq_G0 ad w) (wq_Q cs D kz_cl A (wq_G0 ad w) rt xt below s 0 0) 2 (kh_M_book_2 rt xt K) := by
      refine wq_iload_n_ok h0 kd_M_book_2 rfl ?_
      refine wq_aload_n_ok h0 kd_M_book_3 rfl ?_
      refine wq_get_ok (wq_getOK h0 hts ki_M hown hK (ci := 9) rfl 18 (Nat.le_of_ble_eq_true rfl) kw_1000 rfl) kd_M_book_4 ?_
      refine wq_icmp_ge_ok (tgt := 28) h0 kd_M_book_7 (by decide) ?_ ?_
      · exact hb_28
      refine wq_aload_n_ok h0 kd_M_book_10 rfl ?_
      refine wq_get_ok (wq_getOK h0 hts ki_M hown hK (ci := 9) rfl 24 (Nat.le_of_ble_eq_true rfl) kw_1006 rfl) kd_M_book_11 ?_
      refine wq_iload_n_ok h0 kd_M_book_14 rfl ?_
      refine wq_aload_n_ok h0 kd_M_book_15 rfl ?_
      refine wq_get_ok (wq_getOK h0 hts ki_M hown hK (ci := 9) rfl 25 (Nat.le_of_ble_eq_true rfl) kw_1007 rfl) kd_M_book_16 ?_
      refine wq_iload_n_ok h0 kd_M_book_19 rfl ?_
      refine wq_iald_ok h0 hK kd_M_book_20 ?_
      refine wq_iast_ok h0 hK kd_M_book_21 ?_
      refine wq_iinc_ok h0 kd_M_book_22 (by decide +kernel) (Nat.le_of_ble_eq_true rfl) ?_
      refine wq_goto_ok (tgt := 2) h0 kd_M_book_25 (by decide) ?_
      exact wq_can_ok (hKc 2 (by decide))
    have hb_94 : wq_Snd p l e ({ frames := 0, cells := 0, slots := 0, locals := 0 } : Room) s m args below meth c 3 cs D kz_cl A (wq_G0 ad w) (wq_Q cs D kz_cl A (wq_G0 ad w) rt xt below s 0 0) 94 (kt_M_book_94 rt xt K) := by
      exact wq_vreturn_ok h0 hr hlk kd_M_book_94
    have hb_30 : wq_Snd p l e ({ frames := 0, cells := 0, slots := 0, locals := 0 } : Room) s m args below meth c 3 cs D kz_cl A (wq_G0 ad w) (wq_Q cs D kz_cl A (wq_G0 ad w) rt xt below s 0 0) 30 (kh_M_book_30 rt xt K) := by
      refine wq_iload_n_ok h0 kd_M_book_30 rfl ?_
      refine wq_aload_n_ok h0 kd_M_book_31 rfl ?_
      refine wq_get_ok (wq_getOK h0 hts ki_M hown hK (ci := 9) rfl 38 (Nat.le_of_ble_eq_true rfl) kw_1020 rfl) kd_M_book_32 ?_
      refine wq_iload_n_ok h0 kd_M_book_35 rfl ?_
      refine wq_iald_ok h0 hK kd_M_book_36 ?_
      refine wq_icmp_ge_ok (tgt := 94) h0 kd_M_book_37 (by decide) ?_ ?_
      · exact hb_94
      refine wq_aload_n_ok h0 kd_M_book_40 rfl ?_
      refine wq_get_ok (wq_getOK h0 hts ki_M hown hK (ci := 9) rfl 49 (Nat.le_of_ble_eq_true rfl) kw_1031 rfl) kd_M_book_41 ?_
      refine wq_iconst_ok h0 kd_M_book_44 (by decide +kernel) ?_
      refine wq_iload_n_ok h0 kd_M_book_45 rfl ?_
      refine wq_imul_ok h0 kd_M_book_46 ?_
      refine wq_iload_n_ok h0 kd_M_book_47 rfl ?_
      refine wq_iadd_ok h0 kd_M_book_48 ?_
      refine wq_aload_n_ok h0 kd_M_book_49 rfl ?_
      refine wq_get_ok (wq_getOK h0 hts ki_M hown hK (ci := 9) rfl 53 (Nat.le_of_ble_eq_true rfl) kw_1035 rfl) kd_M_book_50 ?_
      refine wq_iload_n_ok h0 kd_M_book_53 rfl ?_
      refine wq_iald_ok h0 hK kd_M_book_54 ?_
      refine wq_iast_ok h0 hK kd_M_book_55 ?_
      refine wq_aload_n_ok h0 kd_M_book_56 rfl ?_
      refine wq_get_ok (wq_getOK h0 hts ki_M hown hK (ci := 9) rfl 50 (Nat.le_of_ble_eq_true rfl) kw_1032 rfl) kd_M_book_57 ?_
      refine wq_iconst_ok h0 kd_M_book_60 (by decide +kernel) ?_
      refine wq_iload_n_ok h0 kd_M_book_61 rfl ?_
      refine wq_imul_ok h0 kd_M_book_62 ?_
      refine wq_iload_n_ok h0 kd_M_book_63 rfl ?_
      refine wq_iadd_ok h0 kd_M_book_64 ?_
      refine wq_aload_n_ok h0 kd_M_book_65 rfl ?_
      refine wq_get_ok (wq_getOK h0 hts ki_M hown hK (ci := 9) rfl 54 (Nat.le_of_ble_eq_true rfl) kw_1036 rfl) kd_M_book_66 ?_
      refine wq_iload_n_ok h0 kd_M_book_69 rfl ?_
      refine wq_iald_ok h0 hK kd_M_book_70 ?_
      refine wq_iast_ok h0 hK kd_M_book_71 ?_
      refine wq_aload_n_ok h0 kd_M_book_72 rfl ?_
      refine wq_get_ok (wq_getOK h0 hts ki_M hown hK (ci := 9) rfl 51 (Nat.le_of_ble_eq_true rfl) kw_1033 rfl) kd_M_book_73 ?_
      refine wq_iconst_ok h0 kd_M_book_76 (by decide +kernel) ?_
      refine wq_iload_n_ok h0 kd_M_book_77 rfl ?_
      refine wq_imul_ok h0 kd_M_book_78 ?_
      refine wq_iload_n_ok h0 kd_M_book_79 rfl ?_
      refine wq_iadd_ok h0 kd_M_book_80 ?_
      refine wq_aload_n_ok h0 kd_M_book_81 rfl ?_
      refine wq_get_ok (wq_getOK h0 hts ki_M hown hK (ci := 9) rfl 55 (Nat.le_of_ble_eq_true rfl) kw_1037 rfl) kd_M_book_82 ?_
      refine wq_iload_n_ok h0 kd_M_book_85 rfl ?_
      refine wq_lald_ok h0 hK kd_M_book_86 ?_
      refine wq_last_ok h0 hK kd_M_book_87 ?_
      refine wq_iinc_ok h0 kd_M_book_88 (by decide +kernel) (Nat.le_of_ble_eq_true rfl) ?_
      refine wq_goto_ok (tgt := 30) h0 kd_M_book_91 (by decide) ?_
      exact wq_can_ok (hKc 30 (by decide))
    have hb_0 : wq_Snd p l e ({ frames := 0, cells := 0, slots := 0, locals := 0 } : Room) s m args below meth c 3 cs D kz_cl A (wq_G0 ad w) (wq_Q cs D kz_cl A (wq_G0 ad w) rt xt below s 0 0) 0 (kt_M_book_0 rt xt K) := by
      refine wq_iconst_ok h0 kd_M_book_0 (by decide +kernel) ?_
      refine wq_istore_n_ok h0 kd_M_book_1 rfl (Nat.le_of_ble_eq_true rfl) ?_
      exact wq_can_ok (hKc 2 (by decide))
    refine ⟨?_, hb_0⟩
    exact List.forall_mem_cons.mpr ⟨hb_2, List.forall_mem_cons.mpr ⟨hb_30, fun _ h => absurd h List.not_mem_nil⟩⟩
  have hun : ∀ (n pc : Nat), pc ∈ [2, 30] → wq_Snd p l e ({ frames := 0, cells := 0, slots := 0, locals := 0 } : Room) s m args below meth c 3 cs D kz_cl A (wq_G0 ad w) (wq_Q cs D kz_cl A (wq_G0 ad w) rt xt below s 0 0) pc (ku_M_book rt xt n pc) := by
    intro n
    induction n with
    | zero => intro pc _ L S w9 n1 n2 h; exact h.elim
    | succ n ih => intro pc hpc; exact (hall (ku_M_book rt xt n) ih).1 pc hpc
  exact (hall (ku_M_book rt xt 1000000000000) (hun 1000000000000)).2 _ _ _ _ _ (wq_sp_t hsp)
set_option maxRecDepth 100000 in
set_option maxHeartbeats 4000000 in
theorem kv_M_lineOf {l : Launch} (hl : l.stackTraces = false) : wq_Vld l kz_cl ky_M_lineOf kw_T ({ frames := 4, cells := 0, slots := 0, locals := 100 }) wq_G0 ks_M_lineOf 0 0 := by
  refine wq_method (cc := kc_M_lineOf) (maxL := 5) (ret := (some .long)) (by decide) kw_1313 (fun _ _ => rfl) wq_sp_sz ?_
  intro p e s m args below meth c cs D ad as w rt xt hF hnt hsp
  obtain ⟨h0, hr, hts, hown, hlk, hnm, hml, hK, hZ, hN, hA⟩ := hF
  have hown : s.vm.findClass "BorderDeskModel" = some m.cls := hown
  obtain ⟨A, hAe⟩ : ∃ A, A = wq_A ad w s.heap.size := ⟨_, rfl⟩
  rw [← hAe] at hZ hA ⊢
  have hb_146 : wq_Snd p l e ({ frames := 4, cells := 0, slots := 0, locals := 100 } : Room) s m args below meth c 5 cs D kz_cl A (wq_G0 ad w) (wq_Q cs D kz_cl A (wq_G0 ad w) rt xt below s 0 0) 146 (kt_M_lineOf_146 rt xt) := by
    exact wq_lreturn_ok h0 hr hlk kd_M_lineOf_146
  have hb_140 : wq_Snd p l e ({ frames := 4, cells := 0, slots := 0, locals := 100 } : Room) s m args below meth c 5 cs D kz_cl A (wq_G0 ad w) (wq_Q cs D kz_cl A (wq_G0 ad w) rt xt below s 0 0) 140 (kt_M_lineOf_140 rt xt) := by
    refine wq_aload_n_ok h0 kd_M_lineOf_140 rfl ?_
    refine wq_get_ok (wq_getOK h0 hts ki_M hown hK (ci := 9) rfl 55 (Nat.le_of_ble_eq_true rfl) kw_1037 rfl) kd_M_lineOf_141 ?_
    refine wq_iload_n_ok h0 kd_M_lineOf_144 rfl ?_
    refine wq_lald_ok h0 hK kd_M_lineOf_145 ?_
    exact hb_146
  have hb_119 : wq_Snd p l e ({ frames := 4, cells := 0, slots := 0, locals := 100 } : Room) s m args below meth c 5 cs D kz_cl A (wq_G0 ad w) (wq_Q cs D kz_cl A (wq_G0 ad w) rt xt below s 0 0) 119 (kt_M_lineOf_119 rt xt) := by
    refine wq_aload_n_ok h0 kd_M_lineOf_119 rfl ?_
    refine wq_iload_n_ok h0 kd_M_lineOf_120 rfl ?_
    refine wq_call_ok hA (wq_runV (ci := 9) ⟨h0.1, h0.2, hml, hown, hts⟩ (kv_M_assess hl) ⟨(wq_cB hts kw_G kw_1338 kw_10 kw_1335 ⟨by decide +kernel, by decide +kernel, by decide +kernel⟩ rfl rfl ⟨Nat.le_of_ble_eq_true rfl, Nat.le_of_ble_eq_true rfl⟩), hts _ kw_1337, hts _ kw_s45⟩ rfl rfl hK hZ hN hA kd_M_lineOf_121) (wq_xout_ok hnt hlk) ?_
    refine wq_pop2_ok h0 kd_M_lineOf_124 ?_
    refine wq_iload_n_ok h0 kd_M_lineOf_125 rfl ?_
    refine wq_iconst_ok h0 kd_M_lineOf_126 (by decide +kernel) ?_
    refine wq_icmp_ne_ok (tgt := 140) h0 kd_M_lineOf_127 (by decide) ?_ ?_
    · exact hb_140
    refine wq_aload_n_ok h0 kd_M_lineOf_130 rfl ?_
    refine wq_get_ok (wq_getOK h0 hts ki_M hown hK (ci := 9) rfl 54 (Nat.le_of_ble_eq_true rfl) kw_1036 rfl) kd_M_lineOf_131 ?_
    refine wq_iload_n_ok h0 kd_M_lineOf_134 rfl ?_
    refine wq_iald_ok h0 hK kd_M_lineOf_135 ?_
    refine wq_i2l_ok h0 kd_M_lineOf_136 ?_
    refine wq_goto_ok (tgt := 146) h0 kd_M_lineOf_137 (by decide) ?_
    exact hb_146
  have hb_107 : wq_Snd p l e ({ frames := 4, cells := 0, slots := 0, locals := 100 } : Room) s m args below meth c 5 cs D kz_cl A (wq_G0 ad w) (wq_Q cs D kz_cl A (wq_G0 ad w) rt xt below s 0 0) 107 (kt_M_lineOf_107 rt xt) := by
    refine wq_put_ok (wq_putOK h0 hts ki_M ka_M kb_M kn_M hown hK (ci := 9) rfl 0 (Nat.le_of_ble_eq_true rfl) kw_982 rfl (Or.inl rfl) wq_okI) kd_M_lineOf_107 ?_
    refine wq_aload_n_ok h0 kd_M_lineOf_110 rfl ?_
    refine wq_get_ok (wq_getOK h0 hts ki_M hown hK (ci := 9) rfl 0 (Nat.le_of_ble_eq_true rfl) kw_982 rfl) kd_M_lineOf_111 ?_
    refine wq_if_le_ok (tgt := 119) h0 kd_M_lineOf_114 (by decide) ?_ ?_
    · exact hb_119
    refine wq_lconst_ok h0 kd_M_lineOf_117 (by decide +kernel) ?_
    exact wq_lreturn_ok h0 hr hlk kd_M_lineOf_118
  have hb_106 : wq_Snd p l e ({ frames := 4, cells := 0, slots := 0, locals := 100 } : Room) s m args below meth c 5 cs D kz_cl A (wq_G0 ad w) (wq_Q cs D kz_cl A (wq_G0 ad w) rt xt below s 0 0) 106 (kt_M_lineOf_106 rt xt) := by
    refine wq_iconst_ok h0 kd_M_lineOf_106 (by decide +kernel) ?_
    exact hb_107
  have hb_93 : wq_Snd p l e ({ frames := 4, cells := 0, slots := 0, locals := 100 } : Room) s m args below meth c 5 cs D kz_cl A (wq_G0 ad w) (wq_Q cs D kz_cl A (wq_G0 ad w) rt xt below s 0 0) 93 (kt_M_lineOf_93 rt xt) := by
    refine wq_aload_n_ok h0 kd_M_lineOf_93 rfl ?_
    refine wq_aload_n_ok h0 kd_M_lineOf_94 rfl ?_
    refine wq_iload_n_ok h0 kd_M_lineOf_95 rfl ?_
    refine wq_call_ok hA (wq_runV (ci := 9) ⟨h0.1, h0.2, hml, hown, hts⟩ (kv_M_find hl) ⟨(wq_cB hts kw_G kw_1330 kw_10 kw_1327 ⟨by decide +kernel, by decide +kernel, by decide +kernel⟩ rfl rfl ⟨Nat.le_of_ble_eq_true rfl, Nat.le_of_ble_eq_true rfl⟩), hts _ kw_1329, hts _ kw_s43⟩ rfl rfl hK hZ hN hA kd_M_lineOf_96) (wq_xout_ok hnt hlk) ?_
    refine wq_if_eq_ok (tgt := 106) h0 kd_M_lineOf_99 (by decide) ?_ ?_
    · exact hb_106
    refine wq_iconst_ok h0 kd_M_lineOf_102 (by decide +kernel) ?_
    refine wq_goto_ok (tgt := 107) h0 kd_M_lineOf_103 (by decide) ?_
    exact hb_107
  have hb_92 : wq_Snd p l e ({ frames := 4, cells := 0, slots := 0, locals := 100 } : Room) s m args below meth c 5 cs D kz_cl A (wq_G0 ad w) (wq_Q cs D kz_cl A (wq_G0 ad w) rt xt below s 0 0) 92 (kt_M_lineOf_92 rt xt) := by
    exact wq_lreturn_ok h0 hr hlk kd_M_lineOf_92
  have hb_85 : wq_Snd p l e ({ frames := 4, cells := 0, slots := 0, locals := 100 } : Room) s m args below meth c 5 cs D kz_cl A (wq_G0 ad w) (wq_Q cs D kz_cl A (wq_G0 ad w) rt xt below s 0 0) 85 (kt_M_lineOf_85 rt xt) := by
    refine wq_aload_n_ok h0 kd_M_lineOf_85 rfl ?_
    refine wq_get_ok (wq_getOK h0 hts ki_M hown hK (ci := 9) rfl 51 (Nat.le_of_ble_eq_true rfl) kw_1033 rfl) kd_M_lineOf_86 ?_
    refine wq_iload_ok h0 kd_M_lineOf_89 ?_
    refine wq_lald_ok h0 hK kd_M_lineOf_91 ?_
    exact hb_92
  have hb_60 : wq_Snd p l e ({ frames := 4, cells := 0, slots := 0, locals := 100 } : Room) s m args below meth c 5 cs D kz_cl A (wq_G0 ad w) (wq_Q cs D kz_cl A (wq_G0 ad w) rt xt below s 0 0) 60 (kt_M_lineOf_60 rt xt) := by
    refine wq_aload_n_ok h0 kd_M_lineOf_60 rfl ?_
    refine wq_get_ok (wq_getOK h0 hts ki_M hown hK (ci := 9) rfl 40 (Nat.le_of_ble_eq_true rfl) kw_1022 rfl) kd_M_lineOf_61 ?_
    refine wq_iload_n_ok h0 kd_M_lineOf_64 rfl ?_
    refine wq_zald_ok h0 hK kd_M_lineOf_65 ?_
    refine wq_if_eq_ok (tgt := 93) h0 kd_M_lineOf_66 (by decide) ?_ ?_
    · exact hb_93
    refine wq_iload_n_ok h0 kd_M_lineOf_69 rfl ?_
    refine wq_iconst_ok h0 kd_M_lineOf_70 (by decide +kernel) ?_
    refine wq_icmp_ne_ok (tgt := 85) h0 kd_M_lineOf_71 (by decide) ?_ ?_
    · exact hb_85
    refine wq_aload_n_ok h0 kd_M_lineOf_74 rfl ?_
    refine wq_get_ok (wq_getOK h0 hts ki_M hown hK (ci := 9) rfl 50 (Nat.le_of_ble_eq_true rfl) kw_1032 rfl) kd_M_lineOf_75 ?_
    refine wq_iload_ok h0 kd_M_lineOf_78 ?_
    refine wq_iald_ok h0 hK kd_M_lineOf_80 ?_
    refine wq_i2l_ok h0 kd_M_lineOf_81 ?_
    refine wq_goto_ok (tgt := 92) h0 kd_M_lineOf_82 (by decide) ?_
    exact hb_92
  have hb_36 : wq_Snd p l e ({ frames := 4, cells := 0, slots := 0, locals := 100 } : Room) s m args below meth c 5 cs D kz_cl A (wq_G0 ad w) (wq_Q cs D kz_cl A (wq_G0 ad w) rt xt below s 0 0) 36 (kt_M_lineOf_36 rt xt) := by
    refine wq_iconst_ok h0 kd_M_lineOf_36 (by decide +kernel) ?_
    refine wq_iload_n_ok h0 kd_M_lineOf_37 rfl ?_
    refine wq_imul_ok h0 kd_M_lineOf_38 ?_
    refine wq_iload_n_ok h0 kd_M_lineOf_39 rfl ?_
    refine wq_iadd_ok h0 kd_M_lineOf_40 ?_
    refine wq_istore_ok h0 kd_M_lineOf_41 (Nat.le_of_ble_eq_true rfl) ?_
    refine wq_iload_n_ok h0 kd_M_lineOf_43 rfl ?_
    refine wq_if_ne_ok (tgt := 60) h0 kd_M_lineOf_44 (by decide) ?_ ?_
    · exact hb_60
    refine wq_aload_n_ok h0 kd_M_lineOf_47 rfl ?_
    refine wq_iload_n_ok h0 kd_M_lineOf_48 rfl ?_
    refine wq_call_ok hA (wq_runV (ci := 9) ⟨h0.1, h0.2, hml, hown, hts⟩ (kv_M_value hl) ⟨(wq_cB hts kw_G kw_1321 kw_10 kw_1318 ⟨by decide +kernel, by decide +kernel, by decide +kernel⟩ rfl rfl ⟨Nat.le_of_ble_eq_true rfl, Nat.le_of_ble_eq_true rfl⟩), hts _ kw_1320, hts _ kw_s41⟩ rfl rfl hK hZ hN hA kd_M_lineOf_49) (wq_xout_ok hnt hlk) ?_
    refine wq_aload_n_ok h0 kd_M_lineOf_52 rfl ?_
    refine wq_get_ok (wq_getOK h0 hts ki_M hown hK (ci := 9) rfl 46 (Nat.le_of_ble_eq_true rfl) kw_1028 rfl) kd_M_lineOf_53 ?_
    refine wq_iload_ok h0 kd_M_lineOf_56 ?_
    refine wq_lald_ok h0 hK kd_M_lineOf_58 ?_
    exact wq_lreturn_ok h0 hr hlk kd_M_lineOf_59
  have hb_24 : wq_Snd p l e ({ frames := 4, cells := 0, slots := 0, locals := 100 } : Room) s m args below meth c 5 cs D kz_cl A (wq_G0 ad w) (wq_Q cs D kz_cl A (wq_G0 ad w) rt xt below s 0 0) 24 (kt_M_lineOf_24 rt xt) := by
    refine wq_put_ok (wq_putOK h0 hts ki_M ka_M kb_M kn_M hown hK (ci := 9) rfl 0 (Nat.le_of_ble_eq_true rfl) kw_982 rfl (Or.inl rfl) wq_okI) kd_M_lineOf_24 ?_
    refine wq_aload_n_ok h0 kd_M_lineOf_27 rfl ?_
    refine wq_get_ok (wq_getOK h0 hts ki_M hown hK (ci := 9) rfl 0 (Nat.le_of_ble_eq_true rfl) kw_982 rfl) kd_M_lineOf_28 ?_
    refine wq_if_le_ok (tgt := 36) h0 kd_M_lineOf_31 (by decide) ?_ ?_
    · exact hb_36
    refine wq_lconst_ok h0 kd_M_lineOf_34 (by decide +kernel) ?_
    exact wq_lreturn_ok h0 hr hlk kd_M_lineOf_35
  have hb_23 : wq_Snd p l e ({ frames := 4, cells := 0, slots := 0, locals := 100 } : Room) s m args below meth c 5 cs D kz_cl A (wq_G0 ad w) (wq_Q cs D kz_cl A (wq_G0 ad w) rt xt below s 0 0) 23 (kt_M_lineOf_23 rt xt) := by
    refine wq_iconst_ok h0 kd_M_lineOf_23 (by decide +kernel) ?_
    exact hb_24
  have hb_0 : wq_Snd p l e ({ frames := 4, cells := 0, slots := 0, locals := 100 } : Room) s m args below meth c 5 cs D kz_cl A (wq_G0 ad w) (wq_Q cs D kz_cl A (wq_G0 ad w) rt xt below s 0 0) 0 (kt_M_lineOf_0 rt xt) := by
    refine wq_aload_n_ok h0 kd_M_lineOf_0 rfl ?_
    refine wq_aload_n_ok h0 kd_M_lineOf_1 rfl ?_
    refine wq_iload_n_ok h0 kd_M_lineOf_2 rfl ?_
    refine wq_iload_n_ok h0 kd_M_lineOf_3 rfl ?_
    refine wq_call_ok hA (wq_runV (ci := 9) ⟨h0.1, h0.2, hml, hown, hts⟩ (kv_M_isLine hl) ⟨(wq_cB hts kw_G kw_1317 kw_10 kw_1314 ⟨by decide +kernel, by decide +kernel, by decide +kernel⟩ rfl rfl ⟨Nat.le_of_ble_eq_true rfl, Nat.le_of_ble_eq_true rfl⟩), hts _ kw_1316, hts _ kw_s40⟩ rfl rfl hK hZ hN hA kd_M_lineOf_4) (wq_xout_ok hnt hlk) ?_
    refine wq_if_eq_ok (tgt := 23) h0 kd_M_lineOf_7 (by decide) ?_ ?_
    · exact hb_23
    refine wq_iload_n_ok h0 kd_M_lineOf_10 rfl ?_
    refine wq_iconst_ok h0 kd_M_lineOf_11 (by decide +kernel) ?_
    refine wq_iconst_ok h0 kd_M_lineOf_12 (by decide +kernel) ?_
    refine wq_call_ok hA (wq_runS ⟨h0.1, h0.2, hml, hown, hts⟩ (kv_M_within hl) ⟨(wq_cB hts kw_G kw_1209 kw_10 kw_1207 ⟨by decide +kernel, by decide +kernel, by decide +kernel⟩ rfl rfl ⟨Nat.le_of_ble_eq_true rfl, Nat.le_of_ble_eq_true rfl⟩), hts _ kw_1208⟩ hK hZ hN hA kd_M_lineOf_13) (wq_xout_ok hnt hlk) ?_
    refine wq_if_eq_ok (tgt := 23) h0 kd_M_lineOf_16 (by decide) ?_ ?_
    · exact hb_23
    refine wq_iconst_ok h0 kd_M_lineOf_19 (by decide +kernel) ?_
    refine wq_goto_ok (tgt := 24) h0 kd_M_lineOf_20 (by decide) ?_
    exact hb_24
  exact hb_0 _ _ _ _ _ (wq_sp_t hsp)
set_option maxRecDepth 100000 in
set_option maxHeartbeats 4000000 in
theorem kv_M_isLate {l : Launch} (hl : l.stackTraces = false) : wq_Vld l kz_cl ky_M_isLate kw_T ({ frames := 0, cells := 0, slots := 0, locals := 0 }) wq_G0 ks_M_isLate 0 0 := by
  refine wq_method (cc := kc_M_isLate) (maxL := 2) (ret := (some .boolean)) (by decide) kw_1360 (fun _ _ => rfl) wq_sp_sz ?_
  intro p e s m args below meth c cs D ad as w rt xt hF hnt hsp
  obtain ⟨h0, hr, hts, hown, hlk, hnm, hml, hK, hZ, hN, hA⟩ := hF
  have hown : s.vm.findClass "BorderDeskModel" = some m.cls := hown
  obtain ⟨A, hAe⟩ : ∃ A, A = wq_A ad w s.heap.size := ⟨_, rfl⟩
  rw [← hAe] at hZ hA ⊢
  have hb_110 : wq_Snd p l e ({ frames := 0, cells := 0, slots := 0, locals := 0 } : Room) s m args below meth c 2 cs D kz_cl A (wq_G0 ad w) (wq_Q cs D kz_cl A (wq_G0 ad w) rt xt below s 0 0) 110 (kt_M_isLate_110 rt xt) := by
    exact wq_zreturn_ok h0 hr hlk kd_M_isLate_110
  have hb_109 : wq_Snd p l e ({ frames := 0, cells := 0, slots := 0, locals := 0 } : Room) s m args below meth c 2 cs D kz_cl A (wq_G0 ad w) (wq_Q cs D kz_cl A (wq_G0 ad w) rt xt below s 0 0) 109 (kt_M_isLate_109 rt xt) := by
    refine wq_iconst_ok h0 kd_M_isLate_109 (by decide +kernel) ?_
    exact hb_110
  have hb_97 : wq_Snd p l e ({ frames := 0, cells := 0, slots := 0, locals := 0 } : Room) s m args below meth c 2 cs D kz_cl A (wq_G0 ad w) (wq_Q cs D kz_cl A (wq_G0 ad w) rt xt below s 0 0) 97 (kt_M_isLate_97 rt xt) := by
    refine wq_aload_n_ok h0 kd_M_isLate_97 rfl ?_
    refine wq_get_ok (wq_getOK h0 hts ki_M hown hK (ci := 9) rfl 41 (Nat.le_of_ble_eq_true rfl) kw_1023 rfl) kd_M_isLate_98 ?_
    refine wq_iload_n_ok h0 kd_M_isLate_101 rfl ?_
    refine wq_icmp_le_ok (tgt := 109) h0 kd_M_isLate_102 (by decide) ?_ ?_
    · exact hb_109
    refine wq_iconst_ok h0 kd_M_isLate_105 (by decide +kernel) ?_
    refine wq_goto_ok (tgt := 110) h0 kd_M_isLate_106 (by decide) ?_
    exact hb_110
  have hb_93 : wq_Snd p l e ({ frames := 0, cells := 0, slots := 0, locals := 0 } : Room) s m args below meth c 2 cs D kz_cl A (wq_G0 ad w) (wq_Q cs D kz_cl A (wq_G0 ad w) rt xt below s 0 0) 93 (kt_M_isLate_93 rt xt) := by
    refine wq_iconst_ok h0 kd_M_isLate_93 (by decide +kernel) ?_
    refine wq_goto_ok (tgt := 110) h0 kd_M_isLate_94 (by decide) ?_
    exact hb_110
  have hb_53 : wq_Snd p l e ({ frames := 0, cells := 0, slots := 0, locals := 0 } : Room) s m args below meth c 2 cs D kz_cl A (wq_G0 ad w) (wq_Q cs D kz_cl A (wq_G0 ad w) rt xt below s 0 0) 53 (kt_M_isLate_53 rt xt) := by
    refine wq_aload_n_ok h0 kd_M_isLate_53 rfl ?_
    refine wq_get_ok (wq_getOK h0 hts ki_M hown hK (ci := 9) rfl 37 (Nat.le_of_ble_eq_true rfl) kw_1019 rfl) kd_M_isLate_54 ?_
    refine wq_aload_n_ok h0 kd_M_isLate_57 rfl ?_
    refine wq_get_ok (wq_getOK h0 hts ki_M hown hK (ci := 9) rfl 41 (Nat.le_of_ble_eq_true rfl) kw_1023 rfl) kd_M_isLate_58 ?_
    refine wq_iald_ok h0 hK kd_M_isLate_61 ?_
    refine wq_aload_n_ok h0 kd_M_isLate_62 rfl ?_
    refine wq_get_ok (wq_getOK h0 hts ki_M hown hK (ci := 9) rfl 37 (Nat.le_of_ble_eq_true rfl) kw_1019 rfl) kd_M_isLate_63 ?_
    refine wq_iload_n_ok h0 kd_M_isLate_66 rfl ?_
    refine wq_iald_ok h0 hK kd_M_isLate_67 ?_
    refine wq_icmp_eq_ok (tgt := 97) h0 kd_M_isLate_68 (by decide) ?_ ?_
    · exact hb_97
    refine wq_aload_n_ok h0 kd_M_isLate_71 rfl ?_
    refine wq_get_ok (wq_getOK h0 hts ki_M hown hK (ci := 9) rfl 37 (Nat.le_of_ble_eq_true rfl) kw_1019 rfl) kd_M_isLate_72 ?_
    refine wq_aload_n_ok h0 kd_M_isLate_75 rfl ?_
    refine wq_get_ok (wq_getOK h0 hts ki_M hown hK (ci := 9) rfl 41 (Nat.le_of_ble_eq_true rfl) kw_1023 rfl) kd_M_isLate_76 ?_
    refine wq_iald_ok h0 hK kd_M_isLate_79 ?_
    refine wq_aload_n_ok h0 kd_M_isLate_80 rfl ?_
    refine wq_get_ok (wq_getOK h0 hts ki_M hown hK (ci := 9) rfl 37 (Nat.le_of_ble_eq_true rfl) kw_1019 rfl) kd_M_isLate_81 ?_
    refine wq_iload_n_ok h0 kd_M_isLate_84 rfl ?_
    refine wq_iald_ok h0 hK kd_M_isLate_85 ?_
    refine wq_icmp_le_ok (tgt := 93) h0 kd_M_isLate_86 (by decide) ?_ ?_
    · exact hb_93
    refine wq_iconst_ok h0 kd_M_isLate_89 (by decide +kernel) ?_
    refine wq_goto_ok (tgt := 110) h0 kd_M_isLate_90 (by decide) ?_
    exact hb_110
  have hb_49 : wq_Snd p l e ({ frames := 0, cells := 0, slots := 0, locals := 0 } : Room) s m args below meth c 2 cs D kz_cl A (wq_G0 ad w) (wq_Q cs D kz_cl A (wq_G0 ad w) rt xt below s 0 0) 49 (kt_M_isLate_49 rt xt) := by
    refine wq_iconst_ok h0 kd_M_isLate_49 (by decide +kernel) ?_
    refine wq_goto_ok (tgt := 110) h0 kd_M_isLate_50 (by decide) ?_
    exact hb_110
  have hb_9 : wq_Snd p l e ({ frames := 0, cells := 0, slots := 0, locals := 0 } : Room) s m args below meth c 2 cs D kz_cl A (wq_G0 ad w) (wq_Q cs D kz_cl A (wq_G0 ad w) rt xt below s 0 0) 9 (kt_M_isLate_9 rt xt) := by
    refine wq_aload_n_ok h0 kd_M_isLate_9 rfl ?_
    refine wq_get_ok (wq_getOK h0 hts ki_M hown hK (ci := 9) rfl 36 (Nat.le_of_ble_eq_true rfl) kw_1018 rfl) kd_M_isLate_10 ?_
    refine wq_aload_n_ok h0 kd_M_isLate_13 rfl ?_
    refine wq_get_ok (wq_getOK h0 hts ki_M hown hK (ci := 9) rfl 41 (Nat.le_of_ble_eq_true rfl) kw_1023 rfl) kd_M_isLate_14 ?_
    refine wq_iald_ok h0 hK kd_M_isLate_17 ?_
    refine wq_aload_n_ok h0 kd_M_isLate_18 rfl ?_
    refine wq_get_ok (wq_getOK h0 hts ki_M hown hK (ci := 9) rfl 36 (Nat.le_of_ble_eq_true rfl) kw_1018 rfl) kd_M_isLate_19 ?_
    refine wq_iload_n_ok h0 kd_M_isLate_22 rfl ?_
    refine wq_iald_ok h0 hK kd_M_isLate_23 ?_
    refine wq_icmp_eq_ok (tgt := 53) h0 kd_M_isLate_24 (by decide) ?_ ?_
    · exact hb_53
    refine wq_aload_n_ok h0 kd_M_isLate_27 rfl ?_
    refine wq_get_ok (wq_getOK h0 hts ki_M hown hK (ci := 9) rfl 36 (Nat.le_of_ble_eq_true rfl) kw_1018 rfl) kd_M_isLate_28 ?_
    refine wq_aload_n_ok h0 kd_M_isLate_31 rfl ?_
    refine wq_get_ok (wq_getOK h0 hts ki_M hown hK (ci := 9) rfl 41 (Nat.le_of_ble_eq_true rfl) kw_1023 rfl) kd_M_isLate_32 ?_
    refine wq_iald_ok h0 hK kd_M_isLate_35 ?_
    refine wq_aload_n_ok h0 kd_M_isLate_36 rfl ?_
    refine wq_get_ok (wq_getOK h0 hts ki_M hown hK (ci := 9) rfl 36 (Nat.le_of_ble_eq_true rfl) kw_1018 rfl) kd_M_isLate_37 ?_
    refine wq_iload_n_ok h0 kd_M_isLate_40 rfl ?_
    refine wq_iald_ok h0 hK kd_M_isLate_41 ?_
    refine wq_icmp_le_ok (tgt := 49) h0 kd_M_isLate_42 (by decide) ?_ ?_
    · exact hb_49
    refine wq_iconst_ok h0 kd_M_isLate_45 (by decide +kernel) ?_
    refine wq_goto_ok (tgt := 110) h0 kd_M_isLate_46 (by decide) ?_
    exact hb_110
  have hb_0 : wq_Snd p l e ({ frames := 0, cells := 0, slots := 0, locals := 0 } : Room) s m args below meth c 2 cs D kz_cl A (wq_G0 ad w) (wq_Q cs D kz_cl A (wq_G0 ad w) rt xt below s 0 0) 0 (kt_M_isLate_0 rt xt) := by
    refine wq_aload_n_ok h0 kd_M_isLate_0 rfl ?_
    refine wq_get_ok (wq_getOK h0 hts ki_M hown hK (ci := 9) rfl 41 (Nat.le_of_ble_eq_true rfl) kw_1023 rfl) kd_M_isLate_1 ?_
    refine wq_if_ge_ok (tgt := 9) h0 kd_M_isLate_4 (by decide) ?_ ?_
    · exact hb_9
    refine wq_iconst_ok h0 kd_M_isLate_7 (by decide +kernel) ?_
    exact wq_zreturn_ok h0 hr hlk kd_M_isLate_8
  exact hb_0 _ _ _ _ _ (wq_sp_t hsp)
set_option maxRecDepth 100000 in
set_option maxHeartbeats 4000000 in
theorem kv_M_addLot {l : Launch} (hl : l.stackTraces = false) : wq_Vld l kz_cl ky_M_addLot kw_T ({ frames := 0, cells := 0, slots := 0, locals := 0 }) wq_G0 ks_M_addLot 0 0 := by
  refine wq_method (cc := kc_M_addLot) (maxL := 7) (ret := (some .int)) (by decide) kw_1368 (fun _ _ => rfl) wq_sp_sz ?_
  intro p e s m args below meth c cs D ad as w rt xt hF hnt hsp
  obtain ⟨h0, hr, hts, hown, hlk, hnm, hml, hK, hZ, hN, hA⟩ := hF
  have hown : s.vm.findClass "BorderDeskModel" = some m.cls := hown
  obtain ⟨A, hAe⟩ : ∃ A, A = wq_A ad w s.heap.size := ⟨_, rfl⟩
  rw [← hAe] at hZ hA ⊢
  have hb_0 : wq_Snd p l e ({ frames := 0, cells := 0, slots := 0, locals := 0 } : Room) s m args below meth c 7 cs D kz_cl A (wq_G0 ad w) (wq_Q cs D kz_cl A (wq_G0 ad w) rt xt below s 0 0) 0 (kt_M_addLot_0 rt xt) := by
    refine wq_aload_n_ok h0 kd_M_addLot_0 rfl ?_
    refine wq_get_ok (wq_getOK h0 hts ki_M hown hK (ci := 9) rfl 57 (Nat.le_of_ble_eq_true rfl) kw_1039 rfl) kd_M_addLot_1 ?_
    refine wq_aload_n_ok h0 kd_M_addLot_4 rfl ?_
    refine wq_get_ok (wq_getOK h0 hts ki_M hown hK (ci := 9) rfl 56 (Nat.le_of_ble_eq_true rfl) kw_1038 rfl) kd_M_addLot_5 ?_
    refine wq_iload_n_ok h0 kd_M_addLot_8 rfl ?_
    refine wq_iast_ok h0 hK kd_M_addLot_9 ?_
    refine wq_aload_n_ok h0 kd_M_addLot_10 rfl ?_
    refine wq_get_ok (wq_getOK h0 hts ki_M hown hK (ci := 9) rfl 58 (Nat.le_of_ble_eq_true rfl) kw_1040 rfl) kd_M_addLot_11 ?_
    refine wq_aload_n_ok h0 kd_M_addLot_14 rfl ?_
    refine wq_get_ok (wq_getOK h0 hts ki_M hown hK (ci := 9) rfl 56 (Nat.le_of_ble_eq_true rfl) kw_1038 rfl) kd_M_addLot_15 ?_
    refine wq_iload_n_ok h0 kd_M_addLot_18 rfl ?_
    refine wq_iast_ok h0 hK kd_M_addLot_19 ?_
    refine wq_aload_n_ok h0 kd_M_addLot_20 rfl ?_
    refine wq_get_ok (wq_getOK h0 hts ki_M hown hK (ci := 9) rfl 60 (Nat.le_of_ble_eq_true rfl) kw_1042 rfl) kd_M_addLot_21 ?_
    refine wq_aload_n_ok h0 kd_M_addLot_24 rfl ?_
    refine wq_get_ok (wq_getOK h0 hts ki_M hown hK (ci := 9) rfl 56 (Nat.le_of_ble_eq_true rfl) kw_1038 rfl) kd_M_addLot_25 ?_
    refine wq_lload_n_ok h0 kd_M_addLot_28 rfl ?_
    refine wq_last_ok h0 hK kd_M_addLot_29 ?_
    refine wq_aload_n_ok h0 kd_M_addLot_30 rfl ?_
    refine wq_get_ok (wq_getOK h0 hts ki_M hown hK (ci := 9) rfl 61 (Nat.le_of_ble_eq_true rfl) kw_1043 rfl) kd_M_addLot_31 ?_
    refine wq_aload_n_ok h0 kd_M_addLot_34 rfl ?_
    refine wq_get_ok (wq_getOK h0 hts ki_M hown hK (ci := 9) rfl 56 (Nat.le_of_ble_eq_true rfl) kw_1038 rfl) kd_M_addLot_35 ?_
    refine wq_iload_ok h0 kd_M_addLot_38 ?_
    refine wq_zast_ok h0 hK kd_M_addLot_40 ?_
    refine wq_aload_n_ok h0 kd_M_addLot_41 rfl ?_
    refine wq_get_ok (wq_getOK h0 hts ki_M hown hK (ci := 9) rfl 62 (Nat.le_of_ble_eq_true rfl) kw_1044 rfl) kd_M_addLot_42 ?_
    refine wq_aload_n_ok h0 kd_M_addLot_45 rfl ?_
    refine wq_get_ok (wq_getOK h0 hts ki_M hown hK (ci := 9) rfl 56 (Nat.le_of_ble_eq_true rfl) kw_1038 rfl) kd_M_addLot_46 ?_
    refine wq_iload_ok h0 kd_M_addLot_49 ?_
    refine wq_zast_ok h0 hK kd_M_addLot_51 ?_
    refine wq_aload_n_ok h0 kd_M_addLot_52 rfl ?_
    refine wq_dup_ok h0 kd_M_addLot_53 ?_
    refine wq_get_ok (wq_getOK h0 hts ki_M hown hK (ci := 9) rfl 56 (Nat.le_of_ble_eq_true rfl) kw_1038 rfl) kd_M_addLot_54 ?_
    refine wq_iconst_ok h0 kd_M_addLot_57 (by decide +kernel) ?_
    refine wq_iadd_ok h0 kd_M_addLot_58 ?_
    refine wq_put_ok (wq_putOK h0 hts ki_M ka_M kb_M kn_M hown hK (ci := 9) rfl 56 (Nat.le_of_ble_eq_true rfl) kw_1038 rfl (Or.inl rfl) wq_okI) kd_M_addLot_59 ?_
    refine wq_aload_n_ok h0 kd_M_addLot_62 rfl ?_
    refine wq_get_ok (wq_getOK h0 hts ki_M hown hK (ci := 9) rfl 56 (Nat.le_of_ble_eq_true rfl) kw_1038 rfl) kd_M_addLot_63 ?_
    refine wq_iconst_ok h0 kd_M_addLot_66 (by decide +kernel) ?_
    refine wq_isub_ok h0 kd_M_addLot_67 ?_
    exact wq_ireturn_ok h0 hr hlk kd_M_addLot_68
  exact hb_0 _ _ _ _ _ (wq_sp_t hsp)
