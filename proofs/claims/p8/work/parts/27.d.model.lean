set_option maxRecDepth 100000 in
set_option maxHeartbeats 4000000 in
theorem kv_M_accept {l : Launch} (hl : l.stackTraces = false) : wq_Vld l kz_cl ky_M_accept kw_T ({ frames := 4, cells := 0, slots := 0, locals := 100 }) wq_G0 ks_M_accept 0 0 := by
  refine wq_method (cc := kc_M_accept) (maxL := 5) (ret := (some .long)) (by decide) kw_1356 (fun _ _ => rfl) wq_sp_sz ?_
  intro p e s m args below meth c cs D ad as w rt xt hF hnt hsp
  obtain ⟨h0, hr, hts, hown, hlk, hnm, hml, hK, hZ, hN, hA⟩ := hF
  have hown : s.vm.findClass "BorderDeskModel" = some m.cls := hown
  obtain ⟨A, hAe⟩ : ∃ A, A = wq_A ad w s.heap.size := ⟨_, rfl⟩
  rw [← hAe] at hZ hA ⊢
  have hall : ∀ K : Nat → wq_T, (∀ pc, pc ∈ [95] → wq_Snd p l e ({ frames := 4, cells := 0, slots := 0, locals := 100 } : Room) s m args below meth c 5 cs D kz_cl A (wq_G0 ad w) (wq_Q cs D kz_cl A (wq_G0 ad w) rt xt below s 0 0) pc (K pc)) → (∀ pc, pc ∈ [95] → wq_Snd p l e ({ frames := 4, cells := 0, slots := 0, locals := 100 } : Room) s m args below meth c 5 cs D kz_cl A (wq_G0 ad w) (wq_Q cs D kz_cl A (wq_G0 ad w) rt xt below s 0 0) pc (cond (Nat.beq pc 95) (kh_M_accept_95 rt xt K) (fun _ _ _ _ _ => False))) ∧ wq_Snd p l e ({ frames := 4, cells := 0, slots := 0, locals := 100 } : Room) s m args below meth c 5 cs D kz_cl A (wq_G0 ad w) (wq_Q cs D kz_cl A (wq_G0 ad w) rt xt below s 0 0) 0 (kt_M_accept_0 rt xt K) := by
    intro K hKc
    have hb_191 : wq_Snd p l e ({ frames := 4, cells := 0, slots := 0, locals := 100 } : Room) s m args below meth c 5 cs D kz_cl A (wq_G0 ad w) (wq_Q cs D kz_cl A (wq_G0 ad w) rt xt below s 0 0) 191 (kt_M_accept_191 rt xt K) := by
      refine wq_aload_n_ok h0 kd_M_accept_191 rfl ?_
      refine wq_get_ok (wq_getOK h0 hts ki_M hown hK (ci := 9) rfl 40 (Nat.le_of_ble_eq_true rfl) kw_1022 rfl) kd_M_accept_192 ?_
      refine wq_iload_n_ok h0 kd_M_accept_195 rfl ?_
      refine wq_iconst_ok h0 kd_M_accept_196 (by decide +kernel) ?_
      refine wq_zast_ok h0 hK kd_M_accept_197 ?_
      refine wq_aload_n_ok h0 kd_M_accept_198 rfl ?_
      refine wq_iload_n_ok h0 kd_M_accept_199 rfl ?_
      refine wq_put_ok (wq_putOK h0 hts ki_M ka_M kb_M kn_M hown hK (ci := 9) rfl 41 (Nat.le_of_ble_eq_true rfl) kw_1023 rfl (Or.inl rfl) wq_okI) kd_M_accept_200 ?_
      refine wq_lload_n_ok h0 kd_M_accept_203 rfl ?_
      exact wq_lreturn_ok h0 hr hlk kd_M_accept_204
    have hb_182 : wq_Snd p l e ({ frames := 4, cells := 0, slots := 0, locals := 100 } : Room) s m args below meth c 5 cs D kz_cl A (wq_G0 ad w) (wq_Q cs D kz_cl A (wq_G0 ad w) rt xt below s 0 0) 182 (kt_M_accept_182 rt xt K) := by
      refine wq_put_ok (wq_putOK h0 hts ki_M ka_M kb_M kn_M hown hK (ci := 9) rfl 66 (Nat.le_of_ble_eq_true rfl) kw_1048 rfl (Or.inl rfl) wq_okL) kd_M_accept_182 ?_
      refine wq_iinc_ok h0 kd_M_accept_185 (by decide +kernel) (Nat.le_of_ble_eq_true rfl) ?_
      refine wq_goto_ok (tgt := 95) h0 kd_M_accept_188 (by decide) ?_
      exact wq_can_ok (hKc 95 (by decide))
    have hb_170 : wq_Snd p l e ({ frames := 4, cells := 0, slots := 0, locals := 100 } : Room) s m args below meth c 5 cs D kz_cl A (wq_G0 ad w) (wq_Q cs D kz_cl A (wq_G0 ad w) rt xt below s 0 0) 170 (kt_M_accept_170 rt xt K) := by
      refine wq_aload_n_ok h0 kd_M_accept_170 rfl ?_
      refine wq_get_ok (wq_getOK h0 hts ki_M hown hK (ci := 9) rfl 66 (Nat.le_of_ble_eq_true rfl) kw_1048 rfl) kd_M_accept_171 ?_
      refine wq_aload_n_ok h0 kd_M_accept_174 rfl ?_
      refine wq_get_ok (wq_getOK h0 hts ki_M hown hK (ci := 9) rfl 51 (Nat.le_of_ble_eq_true rfl) kw_1033 rfl) kd_M_accept_175 ?_
      refine wq_iload_ok h0 kd_M_accept_178 ?_
      refine wq_lald_ok h0 hK kd_M_accept_180 ?_
      refine wq_ladd_ok h0 kd_M_accept_181 ?_
      exact hb_182
    have hb_95 : wq_Snd p l e ({ frames := 4, cells := 0, slots := 0, locals := 100 } : Room) s m args below meth c 5 cs D kz_cl A (wq_G0 ad w) (wq_Q cs D kz_cl A (wq_G0 ad w) rt xt below s 0 0) 95 (kh_M_accept_95 rt xt K) := by
      refine wq_iload_ok h0 kd_M_accept_95 ?_
      refine wq_iconst_ok h0 kd_M_accept_97 (by decide +kernel) ?_
      refine wq_iload_n_ok h0 kd_M_accept_98 rfl ?_
      refine wq_imul_ok h0 kd_M_accept_99 ?_
      refine wq_aload_n_ok h0 kd_M_accept_100 rfl ?_
      refine wq_get_ok (wq_getOK h0 hts ki_M hown hK (ci := 9) rfl 38 (Nat.le_of_ble_eq_true rfl) kw_1020 rfl) kd_M_accept_101 ?_
      refine wq_iload_n_ok h0 kd_M_accept_104 rfl ?_
      refine wq_iald_ok h0 hK kd_M_accept_105 ?_
      refine wq_iadd_ok h0 kd_M_accept_106 ?_
      refine wq_icmp_ge_ok (tgt := 191) h0 kd_M_accept_107 (by decide) ?_ ?_
      · exact hb_191
      refine wq_aload_n_ok h0 kd_M_accept_110 rfl ?_
      refine wq_get_ok (wq_getOK h0 hts ki_M hown hK (ci := 9) rfl 48 (Nat.le_of_ble_eq_true rfl) kw_1030 rfl) kd_M_accept_111 ?_
      refine wq_iload_ok h0 kd_M_accept_114 ?_
      refine wq_aload_n_ok h0 kd_M_accept_116 rfl ?_
      refine wq_aload_n_ok h0 kd_M_accept_117 rfl ?_
      refine wq_get_ok (wq_getOK h0 hts ki_M hown hK (ci := 9) rfl 42 (Nat.le_of_ble_eq_true rfl) kw_1024 rfl) kd_M_accept_118 ?_
      refine wq_iload_ok h0 kd_M_accept_121 ?_
      refine wq_iald_ok h0 hK kd_M_accept_123 ?_
      refine wq_aload_n_ok h0 kd_M_accept_124 rfl ?_
      refine wq_get_ok (wq_getOK h0 hts ki_M hown hK (ci := 9) rfl 45 (Nat.le_of_ble_eq_true rfl) kw_1027 rfl) kd_M_accept_125 ?_
      refine wq_iconst_ok h0 kd_M_accept_128 (by decide +kernel) ?_
      refine wq_iload_ok h0 kd_M_accept_129 ?_
      refine wq_imul_ok h0 kd_M_accept_131 ?_
      refine wq_iald_ok h0 hK kd_M_accept_132 ?_
      refine wq_aload_n_ok h0 kd_M_accept_133 rfl ?_
      refine wq_get_ok (wq_getOK h0 hts ki_M hown hK (ci := 9) rfl 51 (Nat.le_of_ble_eq_true rfl) kw_1033 rfl) kd_M_accept_134 ?_
      refine wq_iload_ok h0 kd_M_accept_137 ?_
      refine wq_lald_ok h0 hK kd_M_accept_139 ?_
      refine wq_aload_n_ok h0 kd_M_accept_140 rfl ?_
      refine wq_get_ok (wq_getOK h0 hts ki_M hown hK (ci := 9) rfl 44 (Nat.le_of_ble_eq_true rfl) kw_1026 rfl) kd_M_accept_141 ?_
      refine wq_iload_ok h0 kd_M_accept_144 ?_
      refine wq_zald_ok h0 hK kd_M_accept_146 ?_
      refine wq_iconst_ok h0 kd_M_accept_147 (by decide +kernel) ?_
      refine wq_call_ok hA (wq_runV (ci := 9) ⟨h0.1, h0.2, hml, hown, hts⟩ (kv_M_addLot hl) ⟨(wq_cB hts kw_G kw_1368 kw_10 kw_1365 ⟨by decide +kernel, by decide +kernel, by decide +kernel⟩ rfl rfl ⟨Nat.le_of_ble_eq_true rfl, Nat.le_of_ble_eq_true rfl⟩), hts _ kw_1367, hts _ kw_s51⟩ rfl rfl hK hZ hN hA kd_M_accept_148) (wq_xout_ok hnt hlk) ?_
      refine wq_iast_ok h0 hK kd_M_accept_151 ?_
      refine wq_aload_n_ok h0 kd_M_accept_152 rfl ?_
      refine wq_aload_n_ok h0 kd_M_accept_153 rfl ?_
      refine wq_get_ok (wq_getOK h0 hts ki_M hown hK (ci := 9) rfl 44 (Nat.le_of_ble_eq_true rfl) kw_1026 rfl) kd_M_accept_154 ?_
      refine wq_iload_ok h0 kd_M_accept_157 ?_
      refine wq_zald_ok h0 hK kd_M_accept_159 ?_
      refine wq_if_eq_ok (tgt := 170) h0 kd_M_accept_160 (by decide) ?_ ?_
      · exact hb_170
      refine wq_aload_n_ok h0 kd_M_accept_163 rfl ?_
      refine wq_get_ok (wq_getOK h0 hts ki_M hown hK (ci := 9) rfl 66 (Nat.le_of_ble_eq_true rfl) kw_1048 rfl) kd_M_accept_164 ?_
      refine wq_goto_ok (tgt := 182) h0 kd_M_accept_167 (by decide) ?_
      exact hb_182
    have hb_79 : wq_Snd p l e ({ frames := 4, cells := 0, slots := 0, locals := 100 } : Room) s m args below meth c 5 cs D kz_cl A (wq_G0 ad w) (wq_Q cs D kz_cl A (wq_G0 ad w) rt xt below s 0 0) 79 (kt_M_accept_79 rt xt K) := by
      refine wq_aload_n_ok h0 kd_M_accept_79 rfl ?_
      refine wq_iload_n_ok h0 kd_M_accept_80 rfl ?_
      refine wq_call_ok hA (wq_runV (ci := 9) ⟨h0.1, h0.2, hml, hown, hts⟩ (kv_M_assess hl) ⟨(wq_cB hts kw_G kw_1338 kw_10 kw_1335 ⟨by decide +kernel, by decide +kernel, by decide +kernel⟩ rfl rfl ⟨Nat.le_of_ble_eq_true rfl, Nat.le_of_ble_eq_true rfl⟩), hts _ kw_1337, hts _ kw_s45⟩ rfl rfl hK hZ hN hA kd_M_accept_81) (wq_xout_ok hnt hlk) ?_
      refine wq_lstore_n_ok h0 kd_M_accept_84 rfl (Nat.le_of_ble_eq_true rfl) ?_
      refine wq_aload_n_ok h0 kd_M_accept_85 rfl ?_
      refine wq_iload_n_ok h0 kd_M_accept_86 rfl ?_
      refine wq_call_ok hA (wq_runV (ci := 9) ⟨h0.1, h0.2, hml, hown, hts⟩ (kv_M_book hl) ⟨(wq_cB hts kw_G kw_1364 kw_10 kw_1361 ⟨by decide +kernel, by decide +kernel, by decide +kernel⟩ rfl rfl ⟨Nat.le_of_ble_eq_true rfl, Nat.le_of_ble_eq_true rfl⟩), hts _ kw_1363, hts _ kw_s50⟩ rfl rfl hK hZ hN hA kd_M_accept_87) (wq_xout_ok hnt hlk) ?_
      refine wq_iconst_ok h0 kd_M_accept_90 (by decide +kernel) ?_
      refine wq_iload_n_ok h0 kd_M_accept_91 rfl ?_
      refine wq_imul_ok h0 kd_M_accept_92 ?_
      refine wq_istore_ok h0 kd_M_accept_93 (Nat.le_of_ble_eq_true rfl) ?_
      exact wq_can_ok (hKc 95 (by decide))
    have hb_67 : wq_Snd p l e ({ frames := 4, cells := 0, slots := 0, locals := 100 } : Room) s m args below meth c 5 cs D kz_cl A (wq_G0 ad w) (wq_Q cs D kz_cl A (wq_G0 ad w) rt xt below s 0 0) 67 (kt_M_accept_67 rt xt K) := by
      refine wq_put_ok (wq_putOK h0 hts ki_M ka_M kb_M kn_M hown hK (ci := 9) rfl 0 (Nat.le_of_ble_eq_true rfl) kw_982 rfl (Or.inl rfl) wq_okI) kd_M_accept_67 ?_
      refine wq_aload_n_ok h0 kd_M_accept_70 rfl ?_
      refine wq_get_ok (wq_getOK h0 hts ki_M hown hK (ci := 9) rfl 0 (Nat.le_of_ble_eq_true rfl) kw_982 rfl) kd_M_accept_71 ?_
      refine wq_if_le_ok (tgt := 79) h0 kd_M_accept_74 (by decide) ?_ ?_
      · exact hb_79
      refine wq_lconst_ok h0 kd_M_accept_77 (by decide +kernel) ?_
      exact wq_lreturn_ok h0 hr hlk kd_M_accept_78
    have hb_30 : wq_Snd p l e ({ frames := 4, cells := 0, slots := 0, locals := 100 } : Room) s m args below meth c 5 cs D kz_cl A (wq_G0 ad w) (wq_Q cs D kz_cl A (wq_G0 ad w) rt xt below s 0 0) 30 (kt_M_accept_30 rt xt K) := by
      refine wq_iconst_ok h0 kd_M_accept_30 (by decide +kernel) ?_
      refine wq_goto_ok (tgt := 67) h0 kd_M_accept_31 (by decide) ?_
      exact hb_67
    have hb_66 : wq_Snd p l e ({ frames := 4, cells := 0, slots := 0, locals := 100 } : Room) s m args below meth c 5 cs D kz_cl A (wq_G0 ad w) (wq_Q cs D kz_cl A (wq_G0 ad w) rt xt below s 0 0) 66 (kt_M_accept_66 rt xt K) := by
      refine wq_iconst_ok h0 kd_M_accept_66 (by decide +kernel) ?_
      exact hb_67
    have hb_46 : wq_Snd p l e ({ frames := 4, cells := 0, slots := 0, locals := 100 } : Room) s m args below meth c 5 cs D kz_cl A (wq_G0 ad w) (wq_Q cs D kz_cl A (wq_G0 ad w) rt xt below s 0 0) 46 (kt_M_accept_46 rt xt K) := by
      refine wq_aload_n_ok h0 kd_M_accept_46 rfl ?_
      refine wq_get_ok (wq_getOK h0 hts ki_M hown hK (ci := 9) rfl 56 (Nat.le_of_ble_eq_true rfl) kw_1038 rfl) kd_M_accept_47 ?_
      refine wq_aload_n_ok h0 kd_M_accept_50 rfl ?_
      refine wq_get_ok (wq_getOK h0 hts ki_M hown hK (ci := 9) rfl 38 (Nat.le_of_ble_eq_true rfl) kw_1020 rfl) kd_M_accept_51 ?_
      refine wq_iload_n_ok h0 kd_M_accept_54 rfl ?_
      refine wq_iald_ok h0 hK kd_M_accept_55 ?_
      refine wq_iadd_ok h0 kd_M_accept_56 ?_
      refine wq_bipush_ok h0 kd_M_accept_57 (by decide +kernel) ?_
      refine wq_icmp_le_ok (tgt := 66) h0 kd_M_accept_59 (by decide) ?_ ?_
      · exact hb_66
      refine wq_iconst_ok h0 kd_M_accept_62 (by decide +kernel) ?_
      refine wq_goto_ok (tgt := 67) h0 kd_M_accept_63 (by decide) ?_
      exact hb_67
    have hb_34 : wq_Snd p l e ({ frames := 4, cells := 0, slots := 0, locals := 100 } : Room) s m args below meth c 5 cs D kz_cl A (wq_G0 ad w) (wq_Q cs D kz_cl A (wq_G0 ad w) rt xt below s 0 0) 34 (kt_M_accept_34 rt xt K) := by
      refine wq_aload_n_ok h0 kd_M_accept_34 rfl ?_
      refine wq_iload_n_ok h0 kd_M_accept_35 rfl ?_
      refine wq_call_ok hA (wq_runV (ci := 9) ⟨h0.1, h0.2, hml, hown, hts⟩ (kv_M_find hl) ⟨(wq_cB hts kw_G kw_1330 kw_10 kw_1327 ⟨by decide +kernel, by decide +kernel, by decide +kernel⟩ rfl rfl ⟨Nat.le_of_ble_eq_true rfl, Nat.le_of_ble_eq_true rfl⟩), hts _ kw_1329, hts _ kw_s43⟩ rfl rfl hK hZ hN hA kd_M_accept_36) (wq_xout_ok hnt hlk) ?_
      refine wq_if_ne_ok (tgt := 46) h0 kd_M_accept_39 (by decide) ?_ ?_
      · exact hb_46
      refine wq_iconst_ok h0 kd_M_accept_42 (by decide +kernel) ?_
      refine wq_goto_ok (tgt := 67) h0 kd_M_accept_43 (by decide) ?_
      exact hb_67
    have hb_13 : wq_Snd p l e ({ frames := 4, cells := 0, slots := 0, locals := 100 } : Room) s m args below meth c 5 cs D kz_cl A (wq_G0 ad w) (wq_Q cs D kz_cl A (wq_G0 ad w) rt xt below s 0 0) 13 (kt_M_accept_13 rt xt K) := by
      refine wq_aload_n_ok h0 kd_M_accept_13 rfl ?_
      refine wq_get_ok (wq_getOK h0 hts ki_M hown hK (ci := 9) rfl 40 (Nat.le_of_ble_eq_true rfl) kw_1022 rfl) kd_M_accept_14 ?_
      refine wq_iload_n_ok h0 kd_M_accept_17 rfl ?_
      refine wq_zald_ok h0 hK kd_M_accept_18 ?_
      refine wq_if_ne_ok (tgt := 30) h0 kd_M_accept_19 (by decide) ?_ ?_
      · exact hb_30
      refine wq_aload_n_ok h0 kd_M_accept_22 rfl ?_
      refine wq_iload_n_ok h0 kd_M_accept_23 rfl ?_
      refine wq_call_ok hA (wq_runV (ci := 9) ⟨h0.1, h0.2, hml, hown, hts⟩ (kv_M_isLate hl) ⟨(wq_cB hts kw_G kw_1360 kw_10 kw_1357 ⟨by decide +kernel, by decide +kernel, by decide +kernel⟩ rfl rfl ⟨Nat.le_of_ble_eq_true rfl, Nat.le_of_ble_eq_true rfl⟩), hts _ kw_1359, hts _ kw_s49⟩ rfl rfl hK hZ hN hA kd_M_accept_24) (wq_xout_ok hnt hlk) ?_
      refine wq_if_eq_ok (tgt := 34) h0 kd_M_accept_27 (by decide) ?_ ?_
      · exact hb_34
      exact hb_30
    have hb_0 : wq_Snd p l e ({ frames := 4, cells := 0, slots := 0, locals := 100 } : Room) s m args below meth c 5 cs D kz_cl A (wq_G0 ad w) (wq_Q cs D kz_cl A (wq_G0 ad w) rt xt below s 0 0) 0 (kt_M_accept_0 rt xt K) := by
      refine wq_aload_n_ok h0 kd_M_accept_0 rfl ?_
      refine wq_aload_n_ok h0 kd_M_accept_1 rfl ?_
      refine wq_iload_n_ok h0 kd_M_accept_2 rfl ?_
      refine wq_call_ok hA (wq_runV (ci := 9) ⟨h0.1, h0.2, hml, hown, hts⟩ (kv_M_isDeclaration hl) ⟨(wq_cB hts kw_G kw_1300 kw_10 kw_1297 ⟨by decide +kernel, by decide +kernel, by decide +kernel⟩ rfl rfl ⟨Nat.le_of_ble_eq_true rfl, Nat.le_of_ble_eq_true rfl⟩), hts _ kw_1299, hts _ kw_s39⟩ rfl rfl hK hZ hN hA kd_M_accept_3) (wq_xout_ok hnt hlk) ?_
      refine wq_if_ne_ok (tgt := 13) h0 kd_M_accept_6 (by decide) ?_ ?_
      · exact hb_13
      refine wq_iconst_ok h0 kd_M_accept_9 (by decide +kernel) ?_
      refine wq_goto_ok (tgt := 67) h0 kd_M_accept_10 (by decide) ?_
      exact hb_67
    refine ⟨?_, hb_0⟩
    exact List.forall_mem_cons.mpr ⟨hb_95, fun _ h => absurd h List.not_mem_nil⟩
  have hun : ∀ (n pc : Nat), pc ∈ [95] → wq_Snd p l e ({ frames := 4, cells := 0, slots := 0, locals := 100 } : Room) s m args below meth c 5 cs D kz_cl A (wq_G0 ad w) (wq_Q cs D kz_cl A (wq_G0 ad w) rt xt below s 0 0) pc (ku_M_accept rt xt n pc) := by
    intro n
    induction n with
    | zero => intro pc _ L S w9 n1 n2 h; exact h.elim
    | succ n ih => intro pc hpc; exact (hall (ku_M_accept rt xt n) ih).1 pc hpc
  exact (hall (ku_M_accept rt xt 1000000000000) (hun 1000000000000)).2 _ _ _ _ _ (wq_sp_t hsp)
set_option maxRecDepth 100000 in
set_option maxHeartbeats 4000000 in
theorem kv_M_isWhole {l : Launch} (hl : l.stackTraces = false) : wq_Vld l kz_cl ky_M_isWhole kw_T ({ frames := 0, cells := 0, slots := 0, locals := 0 }) wq_G0 ks_M_isWhole 0 0 := by
  refine wq_method (cc := kc_M_isWhole) (maxL := 4) (ret := (some .boolean)) (by decide) kw_1376 (fun _ _ => rfl) wq_sp_sz ?_
  intro p e s m args below meth c cs D ad as w rt xt hF hnt hsp
  obtain ⟨h0, hr, hts, hown, hlk, hnm, hml, hK, hZ, hN, hA⟩ := hF
  have hown : s.vm.findClass "BorderDeskModel" = some m.cls := hown
  obtain ⟨A, hAe⟩ : ∃ A, A = wq_A ad w s.heap.size := ⟨_, rfl⟩
  rw [← hAe] at hZ hA ⊢
  have hall : ∀ K : Nat → wq_T, (∀ pc, pc ∈ [11] → wq_Snd p l e ({ frames := 0, cells := 0, slots := 0, locals := 0 } : Room) s m args below meth c 4 cs D kz_cl A (wq_G0 ad w) (wq_Q cs D kz_cl A (wq_G0 ad w) rt xt below s 0 0) pc (K pc)) → (∀ pc, pc ∈ [11] → wq_Snd p l e ({ frames := 0, cells := 0, slots := 0, locals := 0 } : Room) s m args below meth c 4 cs D kz_cl A (wq_G0 ad w) (wq_Q cs D kz_cl A (wq_G0 ad w) rt xt below s 0 0) pc (cond (Nat.beq pc 11) (kh_M_isWhole_11 rt xt K) (fun _ _ _ _ _ => False))) ∧ wq_Snd p l e ({ frames := 0, cells := 0, slots := 0, locals := 0 } : Room) s m args below meth c 4 cs D kz_cl A (wq_G0 ad w) (wq_Q cs D kz_cl A (wq_G0 ad w) rt xt below s 0 0) 0 (kt_M_isWhole_0 rt xt K) := by
    intro K hKc
    have hb_55 : wq_Snd p l e ({ frames := 0, cells := 0, slots := 0, locals := 0 } : Room) s m args below meth c 4 cs D kz_cl A (wq_G0 ad w) (wq_Q cs D kz_cl A (wq_G0 ad w) rt xt below s 0 0) 55 (kt_M_isWhole_55 rt xt K) := by
      refine wq_iload_n_ok h0 kd_M_isWhole_55 rfl ?_
      exact wq_zreturn_ok h0 hr hlk kd_M_isWhole_56
    have hb_48 : wq_Snd p l e ({ frames := 0, cells := 0, slots := 0, locals := 0 } : Room) s m args below meth c 4 cs D kz_cl A (wq_G0 ad w) (wq_Q cs D kz_cl A (wq_G0 ad w) rt xt below s 0 0) 48 (kt_M_isWhole_48 rt xt K) := by
      refine wq_istore_n_ok h0 kd_M_isWhole_48 rfl (Nat.le_of_ble_eq_true rfl) ?_
      refine wq_iinc_ok h0 kd_M_isWhole_49 (by decide +kernel) (Nat.le_of_ble_eq_true rfl) ?_
      refine wq_goto_ok (tgt := 11) h0 kd_M_isWhole_52 (by decide) ?_
      exact wq_can_ok (hKc 11 (by decide))
    have hb_47 : wq_Snd p l e ({ frames := 0, cells := 0, slots := 0, locals := 0 } : Room) s m args below meth c 4 cs D kz_cl A (wq_G0 ad w) (wq_Q cs D kz_cl A (wq_G0 ad w) rt xt below s 0 0) 47 (kt_M_isWhole_47 rt xt K) := by
      refine wq_iconst_ok h0 kd_M_isWhole_47 (by decide +kernel) ?_
      exact hb_48
    have hb_11 : wq_Snd p l e ({ frames := 0, cells := 0, slots := 0, locals := 0 } : Room) s m args below meth c 4 cs D kz_cl A (wq_G0 ad w) (wq_Q cs D kz_cl A (wq_G0 ad w) rt xt below s 0 0) 11 (kh_M_isWhole_11 rt xt K) := by
      refine wq_iload_n_ok h0 kd_M_isWhole_11 rfl ?_
      refine wq_iconst_ok h0 kd_M_isWhole_12 (by decide +kernel) ?_
      refine wq_iload_n_ok h0 kd_M_isWhole_13 rfl ?_
      refine wq_imul_ok h0 kd_M_isWhole_14 ?_
      refine wq_aload_n_ok h0 kd_M_isWhole_15 rfl ?_
      refine wq_get_ok (wq_getOK h0 hts ki_M hown hK (ci := 9) rfl 38 (Nat.le_of_ble_eq_true rfl) kw_1020 rfl) kd_M_isWhole_16 ?_
      refine wq_iload_n_ok h0 kd_M_isWhole_19 rfl ?_
      refine wq_iald_ok h0 hK kd_M_isWhole_20 ?_
      refine wq_iadd_ok h0 kd_M_isWhole_21 ?_
      refine wq_icmp_ge_ok (tgt := 55) h0 kd_M_isWhole_22 (by decide) ?_ ?_
      · exact hb_55
      refine wq_iload_n_ok h0 kd_M_isWhole_25 rfl ?_
      refine wq_if_eq_ok (tgt := 47) h0 kd_M_isWhole_26 (by decide) ?_ ?_
      · exact hb_47
      refine wq_aload_n_ok h0 kd_M_isWhole_29 rfl ?_
      refine wq_get_ok (wq_getOK h0 hts ki_M hown hK (ci := 9) rfl 59 (Nat.le_of_ble_eq_true rfl) kw_1041 rfl) kd_M_isWhole_30 ?_
      refine wq_aload_n_ok h0 kd_M_isWhole_33 rfl ?_
      refine wq_get_ok (wq_getOK h0 hts ki_M hown hK (ci := 9) rfl 48 (Nat.le_of_ble_eq_true rfl) kw_1030 rfl) kd_M_isWhole_34 ?_
      refine wq_iload_n_ok h0 kd_M_isWhole_37 rfl ?_
      refine wq_iald_ok h0 hK kd_M_isWhole_38 ?_
      refine wq_iald_ok h0 hK kd_M_isWhole_39 ?_
      refine wq_if_ne_ok (tgt := 47) h0 kd_M_isWhole_40 (by decide) ?_ ?_
      · exact hb_47
      refine wq_iconst_ok h0 kd_M_isWhole_43 (by decide +kernel) ?_
      refine wq_goto_ok (tgt := 48) h0 kd_M_isWhole_44 (by decide) ?_
      exact hb_48
    have hb_0 : wq_Snd p l e ({ frames := 0, cells := 0, slots := 0, locals := 0 } : Room) s m args below meth c 4 cs D kz_cl A (wq_G0 ad w) (wq_Q cs D kz_cl A (wq_G0 ad w) rt xt below s 0 0) 0 (kt_M_isWhole_0 rt xt K) := by
      refine wq_aload_n_ok h0 kd_M_isWhole_0 rfl ?_
      refine wq_get_ok (wq_getOK h0 hts ki_M hown hK (ci := 9) rfl 40 (Nat.le_of_ble_eq_true rfl) kw_1022 rfl) kd_M_isWhole_1 ?_
      refine wq_iload_n_ok h0 kd_M_isWhole_4 rfl ?_
      refine wq_zald_ok h0 hK kd_M_isWhole_5 ?_
      refine wq_istore_n_ok h0 kd_M_isWhole_6 rfl (Nat.le_of_ble_eq_true rfl) ?_
      refine wq_iconst_ok h0 kd_M_isWhole_7 (by decide +kernel) ?_
      refine wq_iload_n_ok h0 kd_M_isWhole_8 rfl ?_
      refine wq_imul_ok h0 kd_M_isWhole_9 ?_
      refine wq_istore_n_ok h0 kd_M_isWhole_10 rfl (Nat.le_of_ble_eq_true rfl) ?_
      exact wq_can_ok (hKc 11 (by decide))
    refine ⟨?_, hb_0⟩
    exact List.forall_mem_cons.mpr ⟨hb_11, fun _ h => absurd h List.not_mem_nil⟩
  have hun : ∀ (n pc : Nat), pc ∈ [11] → wq_Snd p l e ({ frames := 0, cells := 0, slots := 0, locals := 0 } : Room) s m args below meth c 4 cs D kz_cl A (wq_G0 ad w) (wq_Q cs D kz_cl A (wq_G0 ad w) rt xt below s 0 0) pc (ku_M_isWhole rt xt n pc) := by
    intro n
    induction n with
    | zero => intro pc _ L S w9 n1 n2 h; exact h.elim
    | succ n ih => intro pc hpc; exact (hall (ku_M_isWhole rt xt n) ih).1 pc hpc
  exact (hall (ku_M_isWhole rt xt 1000000000000) (hun 1000000000000)).2 _ _ _ _ _ (wq_sp_t hsp)
set_option maxRecDepth 100000 in
set_option maxHeartbeats 4000000 in
theorem kv_M_amend {l : Launch} (hl : l.stackTraces = false) : wq_Vld l kz_cl ky_M_amend kw_T ({ frames := 4, cells := 0, slots := 0, locals := 98 }) wq_G0 ks_M_amend 0 0 := by
  refine wq_method (cc := kc_M_amend) (maxL := 10) (ret := (some .long)) (by decide) kw_1372 (fun _ _ => rfl) wq_sp_sz ?_
  intro p e s m args below meth c cs D ad as w rt xt hF hnt hsp
  obtain ⟨h0, hr, hts, hown, hlk, hnm, hml, hK, hZ, hN, hA⟩ := hF
  have hown : s.vm.findClass "BorderDeskModel" = some m.cls := hown
  obtain ⟨A, hAe⟩ : ∃ A, A = wq_A ad w s.heap.size := ⟨_, rfl⟩
  rw [← hAe] at hZ hA ⊢
  have hall : ∀ K : Nat → wq_T, (∀ pc, pc ∈ [95, 297] → wq_Snd p l e ({ frames := 4, cells := 0, slots := 0, locals := 98 } : Room) s m args below meth c 10 cs D kz_cl A (wq_G0 ad w) (wq_Q cs D kz_cl A (wq_G0 ad w) rt xt below s 0 0) pc (K pc)) → (∀ pc, pc ∈ [95, 297] → wq_Snd p l e ({ frames := 4, cells := 0, slots := 0, locals := 98 } : Room) s m args below meth c 10 cs D kz_cl A (wq_G0 ad w) (wq_Q cs D kz_cl A (wq_G0 ad w) rt xt below s 0 0) pc (cond (Nat.beq pc 95) (kh_M_amend_95 rt xt K) (cond (Nat.beq pc 297) (kh_M_amend_297 rt xt K) (fun _ _ _ _ _ => False)))) ∧ wq_Snd p l e ({ frames := 4, cells := 0, slots := 0, locals := 98 } : Room) s m args below meth c 10 cs D kz_cl A (wq_G0 ad w) (wq_Q cs D kz_cl A (wq_G0 ad w) rt xt below s 0 0) 0 (kt_M_amend_0 rt xt K) := by
    intro K hKc
    have hb_280 : wq_Snd p l e ({ frames := 4, cells := 0, slots := 0, locals := 98 } : Room) s m args below meth c 10 cs D kz_cl A (wq_G0 ad w) (wq_Q cs D kz_cl A (wq_G0 ad w) rt xt below s 0 0) 280 (kt_M_amend_280 rt xt K) := by
      refine wq_aload_n_ok h0 kd_M_amend_280 rfl ?_
      refine wq_iload_n_ok h0 kd_M_amend_281 rfl ?_
      refine wq_call_ok hA (wq_runV (ci := 9) ⟨h0.1, h0.2, hml, hown, hts⟩ (kv_M_workOut hl) ⟨(wq_cB hts kw_G kw_1346 kw_10 kw_1343 ⟨by decide +kernel, by decide +kernel, by decide +kernel⟩ rfl rfl ⟨Nat.le_of_ble_eq_true rfl, Nat.le_of_ble_eq_true rfl⟩), hts _ kw_1345, hts _ kw_s47⟩ rfl rfl hK hZ hN hA kd_M_amend_282) (wq_xout_ok hnt hlk) ?_
      refine wq_lstore_ok h0 kd_M_amend_285 (Nat.le_of_ble_eq_true rfl) ?_
      refine wq_aload_n_ok h0 kd_M_amend_287 rfl ?_
      refine wq_iload_n_ok h0 kd_M_amend_288 rfl ?_
      refine wq_call_ok hA (wq_runV (ci := 9) ⟨h0.1, h0.2, hml, hown, hts⟩ (kv_M_book hl) ⟨(wq_cB hts kw_G kw_1364 kw_10 kw_1361 ⟨by decide +kernel, by decide +kernel, by decide +kernel⟩ rfl rfl ⟨Nat.le_of_ble_eq_true rfl, Nat.le_of_ble_eq_true rfl⟩), hts _ kw_1363, hts _ kw_s50⟩ rfl rfl hK hZ hN hA kd_M_amend_289) (wq_xout_ok hnt hlk) ?_
      refine wq_iconst_ok h0 kd_M_amend_292 (by decide +kernel) ?_
      refine wq_iload_n_ok h0 kd_M_amend_293 rfl ?_
      refine wq_imul_ok h0 kd_M_amend_294 ?_
      refine wq_istore_ok h0 kd_M_amend_295 (Nat.le_of_ble_eq_true rfl) ?_
      exact wq_can_ok (hKc 297 (by decide))
    have hb_265 : wq_Snd p l e ({ frames := 4, cells := 0, slots := 0, locals := 98 } : Room) s m args below meth c 10 cs D kz_cl A (wq_G0 ad w) (wq_Q cs D kz_cl A (wq_G0 ad w) rt xt below s 0 0) 265 (kt_M_amend_265 rt xt K) := by
      refine wq_aload_n_ok h0 kd_M_amend_265 rfl ?_
      refine wq_get_ok (wq_getOK h0 hts ki_M hown hK (ci := 9) rfl 54 (Nat.le_of_ble_eq_true rfl) kw_1036 rfl) kd_M_amend_266 ?_
      refine wq_iload_ok h0 kd_M_amend_269 ?_
      refine wq_iload_ok h0 kd_M_amend_271 ?_
      refine wq_iast_ok h0 hK kd_M_amend_273 ?_
      refine wq_iinc_ok h0 kd_M_amend_274 (by decide +kernel) (Nat.le_of_ble_eq_true rfl) ?_
      refine wq_goto_ok (tgt := 95) h0 kd_M_amend_277 (by decide) ?_
      exact wq_can_ok (hKc 95 (by decide))
    have hb_218 : wq_Snd p l e ({ frames := 4, cells := 0, slots := 0, locals := 98 } : Room) s m args below meth c 10 cs D kz_cl A (wq_G0 ad w) (wq_Q cs D kz_cl A (wq_G0 ad w) rt xt below s 0 0) 218 (kt_M_amend_218 rt xt K) := by
      refine wq_istore_ok h0 kd_M_amend_218 (Nat.le_of_ble_eq_true rfl) ?_
      refine wq_aload_n_ok h0 kd_M_amend_220 rfl ?_
      refine wq_get_ok (wq_getOK h0 hts ki_M hown hK (ci := 9) rfl 49 (Nat.le_of_ble_eq_true rfl) kw_1031 rfl) kd_M_amend_221 ?_
      refine wq_iload_ok h0 kd_M_amend_224 ?_
      refine wq_iald_ok h0 hK kd_M_amend_226 ?_
      refine wq_if_lt_ok (tgt := 265) h0 kd_M_amend_227 (by decide) ?_ ?_
      · exact hb_265
      refine wq_aload_n_ok h0 kd_M_amend_230 rfl ?_
      refine wq_get_ok (wq_getOK h0 hts ki_M hown hK (ci := 9) rfl 25 (Nat.le_of_ble_eq_true rfl) kw_1007 rfl) kd_M_amend_231 ?_
      refine wq_aload_n_ok h0 kd_M_amend_234 rfl ?_
      refine wq_get_ok (wq_getOK h0 hts ki_M hown hK (ci := 9) rfl 49 (Nat.le_of_ble_eq_true rfl) kw_1031 rfl) kd_M_amend_235 ?_
      refine wq_iload_ok h0 kd_M_amend_238 ?_
      refine wq_iald_ok h0 hK kd_M_amend_240 ?_
      refine wq_aload_n_ok h0 kd_M_amend_241 rfl ?_
      refine wq_get_ok (wq_getOK h0 hts ki_M hown hK (ci := 9) rfl 25 (Nat.le_of_ble_eq_true rfl) kw_1007 rfl) kd_M_amend_242 ?_
      refine wq_aload_n_ok h0 kd_M_amend_245 rfl ?_
      refine wq_get_ok (wq_getOK h0 hts ki_M hown hK (ci := 9) rfl 49 (Nat.le_of_ble_eq_true rfl) kw_1031 rfl) kd_M_amend_246 ?_
      refine wq_iload_ok h0 kd_M_amend_249 ?_
      refine wq_iald_ok h0 hK kd_M_amend_251 ?_
      refine wq_iald_ok h0 hK kd_M_amend_252 ?_
      refine wq_aload_n_ok h0 kd_M_amend_253 rfl ?_
      refine wq_get_ok (wq_getOK h0 hts ki_M hown hK (ci := 9) rfl 50 (Nat.le_of_ble_eq_true rfl) kw_1032 rfl) kd_M_amend_254 ?_
      refine wq_iload_ok h0 kd_M_amend_257 ?_
      refine wq_iald_ok h0 hK kd_M_amend_259 ?_
      refine wq_iadd_ok h0 kd_M_amend_260 ?_
      refine wq_iload_ok h0 kd_M_amend_261 ?_
      refine wq_isub_ok h0 kd_M_amend_263 ?_
      refine wq_iast_ok h0 hK kd_M_amend_264 ?_
      exact hb_265
    have hb_209 : wq_Snd p l e ({ frames := 4, cells := 0, slots := 0, locals := 98 } : Room) s m args below meth c 10 cs D kz_cl A (wq_G0 ad w) (wq_Q cs D kz_cl A (wq_G0 ad w) rt xt below s 0 0) 209 (kt_M_amend_209 rt xt K) := by
      refine wq_aload_n_ok h0 kd_M_amend_209 rfl ?_
      refine wq_get_ok (wq_getOK h0 hts ki_M hown hK (ci := 9) rfl 45 (Nat.le_of_ble_eq_true rfl) kw_1027 rfl) kd_M_amend_210 ?_
      refine wq_iconst_ok h0 kd_M_amend_213 (by decide +kernel) ?_
      refine wq_iload_ok h0 kd_M_amend_214 ?_
      refine wq_imul_ok h0 kd_M_amend_216 ?_
      refine wq_iald_ok h0 hK kd_M_amend_217 ?_
      exact hb_218
    have hb_180 : wq_Snd p l e ({ frames := 4, cells := 0, slots := 0, locals := 98 } : Room) s m args below meth c 10 cs D kz_cl A (wq_G0 ad w) (wq_Q cs D kz_cl A (wq_G0 ad w) rt xt below s 0 0) 180 (kt_M_amend_180 rt xt K) := by
      refine wq_aload_n_ok h0 kd_M_amend_180 rfl ?_
      refine wq_get_ok (wq_getOK h0 hts ki_M hown hK (ci := 9) rfl 50 (Nat.le_of_ble_eq_true rfl) kw_1032 rfl) kd_M_amend_181 ?_
      refine wq_iload_ok h0 kd_M_amend_184 ?_
      refine wq_iald_ok h0 hK kd_M_amend_186 ?_
      refine wq_aload_n_ok h0 kd_M_amend_187 rfl ?_
      refine wq_get_ok (wq_getOK h0 hts ki_M hown hK (ci := 9) rfl 45 (Nat.le_of_ble_eq_true rfl) kw_1027 rfl) kd_M_amend_188 ?_
      refine wq_iconst_ok h0 kd_M_amend_191 (by decide +kernel) ?_
      refine wq_iload_ok h0 kd_M_amend_192 ?_
      refine wq_imul_ok h0 kd_M_amend_194 ?_
      refine wq_iald_ok h0 hK kd_M_amend_195 ?_
      refine wq_icmp_ge_ok (tgt := 209) h0 kd_M_amend_196 (by decide) ?_ ?_
      · exact hb_209
      refine wq_aload_n_ok h0 kd_M_amend_199 rfl ?_
      refine wq_get_ok (wq_getOK h0 hts ki_M hown hK (ci := 9) rfl 50 (Nat.le_of_ble_eq_true rfl) kw_1032 rfl) kd_M_amend_200 ?_
      refine wq_iload_ok h0 kd_M_amend_203 ?_
      refine wq_iald_ok h0 hK kd_M_amend_205 ?_
      refine wq_goto_ok (tgt := 218) h0 kd_M_amend_206 (by decide) ?_
      exact hb_218
    have hb_156 : wq_Snd p l e ({ frames := 4, cells := 0, slots := 0, locals := 98 } : Room) s m args below meth c 10 cs D kz_cl A (wq_G0 ad w) (wq_Q cs D kz_cl A (wq_G0 ad w) rt xt below s 0 0) 156 (kt_M_amend_156 rt xt K) := by
      refine wq_put_ok (wq_putOK h0 hts ki_M ka_M kb_M kn_M hown hK (ci := 9) rfl 66 (Nat.le_of_ble_eq_true rfl) kw_1048 rfl (Or.inl rfl) wq_okL) kd_M_amend_156 ?_
      refine wq_aload_n_ok h0 kd_M_amend_159 rfl ?_
      refine wq_get_ok (wq_getOK h0 hts ki_M hown hK (ci := 9) rfl 49 (Nat.le_of_ble_eq_true rfl) kw_1031 rfl) kd_M_amend_160 ?_
      refine wq_iload_ok h0 kd_M_amend_163 ?_
      refine wq_iald_ok h0 hK kd_M_amend_165 ?_
      refine wq_aload_n_ok h0 kd_M_amend_166 rfl ?_
      refine wq_get_ok (wq_getOK h0 hts ki_M hown hK (ci := 9) rfl 53 (Nat.le_of_ble_eq_true rfl) kw_1035 rfl) kd_M_amend_167 ?_
      refine wq_iload_ok h0 kd_M_amend_170 ?_
      refine wq_iald_ok h0 hK kd_M_amend_172 ?_
      refine wq_icmp_eq_ok (tgt := 180) h0 kd_M_amend_173 (by decide) ?_ ?_
      · exact hb_180
      refine wq_iconst_ok h0 kd_M_amend_176 (by decide +kernel) ?_
      refine wq_goto_ok (tgt := 218) h0 kd_M_amend_177 (by decide) ?_
      exact hb_218
    have hb_144 : wq_Snd p l e ({ frames := 4, cells := 0, slots := 0, locals := 98 } : Room) s m args below meth c 10 cs D kz_cl A (wq_G0 ad w) (wq_Q cs D kz_cl A (wq_G0 ad w) rt xt below s 0 0) 144 (kt_M_amend_144 rt xt K) := by
      refine wq_aload_n_ok h0 kd_M_amend_144 rfl ?_
      refine wq_get_ok (wq_getOK h0 hts ki_M hown hK (ci := 9) rfl 66 (Nat.le_of_ble_eq_true rfl) kw_1048 rfl) kd_M_amend_145 ?_
      refine wq_aload_n_ok h0 kd_M_amend_148 rfl ?_
      refine wq_get_ok (wq_getOK h0 hts ki_M hown hK (ci := 9) rfl 51 (Nat.le_of_ble_eq_true rfl) kw_1033 rfl) kd_M_amend_149 ?_
      refine wq_iload_ok h0 kd_M_amend_152 ?_
      refine wq_lald_ok h0 hK kd_M_amend_154 ?_
      refine wq_lsub_ok h0 kd_M_amend_155 ?_
      exact hb_156
    have hb_95 : wq_Snd p l e ({ frames := 4, cells := 0, slots := 0, locals := 98 } : Room) s m args below meth c 10 cs D kz_cl A (wq_G0 ad w) (wq_Q cs D kz_cl A (wq_G0 ad w) rt xt below s 0 0) 95 (kh_M_amend_95 rt xt K) := by
      refine wq_iload_ok h0 kd_M_amend_95 ?_
      refine wq_aload_n_ok h0 kd_M_amend_97 rfl ?_
      refine wq_get_ok (wq_getOK h0 hts ki_M hown hK (ci := 9) rfl 38 (Nat.le_of_ble_eq_true rfl) kw_1020 rfl) kd_M_amend_98 ?_
      refine wq_iload_n_ok h0 kd_M_amend_101 rfl ?_
      refine wq_iald_ok h0 hK kd_M_amend_102 ?_
      refine wq_icmp_ge_ok (tgt := 280) h0 kd_M_amend_103 (by decide) ?_ ?_
      · exact hb_280
      refine wq_iconst_ok h0 kd_M_amend_106 (by decide +kernel) ?_
      refine wq_iload_n_ok h0 kd_M_amend_107 rfl ?_
      refine wq_imul_ok h0 kd_M_amend_108 ?_
      refine wq_iload_ok h0 kd_M_amend_109 ?_
      refine wq_iadd_ok h0 kd_M_amend_111 ?_
      refine wq_istore_ok h0 kd_M_amend_112 (Nat.le_of_ble_eq_true rfl) ?_
      refine wq_lload_ok h0 kd_M_amend_114 ?_
      refine wq_aload_n_ok h0 kd_M_amend_116 rfl ?_
      refine wq_get_ok (wq_getOK h0 hts ki_M hown hK (ci := 9) rfl 51 (Nat.le_of_ble_eq_true rfl) kw_1033 rfl) kd_M_amend_117 ?_
      refine wq_iload_ok h0 kd_M_amend_120 ?_
      refine wq_lald_ok h0 hK kd_M_amend_122 ?_
      refine wq_ladd_ok h0 kd_M_amend_123 ?_
      refine wq_lstore_ok h0 kd_M_amend_124 (Nat.le_of_ble_eq_true rfl) ?_
      refine wq_aload_n_ok h0 kd_M_amend_126 rfl ?_
      refine wq_aload_n_ok h0 kd_M_amend_127 rfl ?_
      refine wq_get_ok (wq_getOK h0 hts ki_M hown hK (ci := 9) rfl 44 (Nat.le_of_ble_eq_true rfl) kw_1026 rfl) kd_M_amend_128 ?_
      refine wq_iload_ok h0 kd_M_amend_131 ?_
      refine wq_zald_ok h0 hK kd_M_amend_133 ?_
      refine wq_if_eq_ok (tgt := 144) h0 kd_M_amend_134 (by decide) ?_ ?_
      · exact hb_144
      refine wq_aload_n_ok h0 kd_M_amend_137 rfl ?_
      refine wq_get_ok (wq_getOK h0 hts ki_M hown hK (ci := 9) rfl 66 (Nat.le_of_ble_eq_true rfl) kw_1048 rfl) kd_M_amend_138 ?_
      refine wq_goto_ok (tgt := 156) h0 kd_M_amend_141 (by decide) ?_
      exact hb_156
    have hb_391 : wq_Snd p l e ({ frames := 4, cells := 0, slots := 0, locals := 98 } : Room) s m args below meth c 10 cs D kz_cl A (wq_G0 ad w) (wq_Q cs D kz_cl A (wq_G0 ad w) rt xt below s 0 0) 391 (kt_M_amend_391 rt xt K) := by
      refine wq_lload_ok h0 kd_M_amend_391 ?_
      refine wq_lload_ok h0 kd_M_amend_393 ?_
      refine wq_lsub_ok h0 kd_M_amend_395 ?_
      exact wq_lreturn_ok h0 hr hlk kd_M_amend_396
    have hb_382 : wq_Snd p l e ({ frames := 4, cells := 0, slots := 0, locals := 98 } : Room) s m args below meth c 10 cs D kz_cl A (wq_G0 ad w) (wq_Q cs D kz_cl A (wq_G0 ad w) rt xt below s 0 0) 382 (kt_M_amend_382 rt xt K) := by
      refine wq_put_ok (wq_putOK h0 hts ki_M ka_M kb_M kn_M hown hK (ci := 9) rfl 66 (Nat.le_of_ble_eq_true rfl) kw_1048 rfl (Or.inl rfl) wq_okL) kd_M_amend_382 ?_
      refine wq_iinc_ok h0 kd_M_amend_385 (by decide +kernel) (Nat.le_of_ble_eq_true rfl) ?_
      refine wq_goto_ok (tgt := 297) h0 kd_M_amend_388 (by decide) ?_
      exact wq_can_ok (hKc 297 (by decide))
    have hb_370 : wq_Snd p l e ({ frames := 4, cells := 0, slots := 0, locals := 98 } : Room) s m args below meth c 10 cs D kz_cl A (wq_G0 ad w) (wq_Q cs D kz_cl A (wq_G0 ad w) rt xt below s 0 0) 370 (kt_M_amend_370 rt xt K) := by
      refine wq_aload_n_ok h0 kd_M_amend_370 rfl ?_
      refine wq_get_ok (wq_getOK h0 hts ki_M hown hK (ci := 9) rfl 66 (Nat.le_of_ble_eq_true rfl) kw_1048 rfl) kd_M_amend_371 ?_
      refine wq_aload_n_ok h0 kd_M_amend_374 rfl ?_
      refine wq_get_ok (wq_getOK h0 hts ki_M hown hK (ci := 9) rfl 51 (Nat.le_of_ble_eq_true rfl) kw_1033 rfl) kd_M_amend_375 ?_
      refine wq_iload_ok h0 kd_M_amend_378 ?_
      refine wq_lald_ok h0 hK kd_M_amend_380 ?_
      refine wq_ladd_ok h0 kd_M_amend_381 ?_
      exact hb_382
    have hb_297 : wq_Snd p l e ({ frames := 4, cells := 0, slots := 0, locals := 98 } : Room) s m args below meth c 10 cs D kz_cl A (wq_G0 ad w) (wq_Q cs D kz_cl A (wq_G0 ad w) rt xt below s 0 0) 297 (kh_M_amend_297 rt xt K) := by
      refine wq_iload_ok h0 kd_M_amend_297 ?_
      refine wq_iconst_ok h0 kd_M_amend_299 (by decide +kernel) ?_
      refine wq_iload_n_ok h0 kd_M_amend_300 rfl ?_
      refine wq_imul_ok h0 kd_M_amend_301 ?_
      refine wq_aload_n_ok h0 kd_M_amend_302 rfl ?_
      refine wq_get_ok (wq_getOK h0 hts ki_M hown hK (ci := 9) rfl 38 (Nat.le_of_ble_eq_true rfl) kw_1020 rfl) kd_M_amend_303 ?_
      refine wq_iload_n_ok h0 kd_M_amend_306 rfl ?_
      refine wq_iald_ok h0 hK kd_M_amend_307 ?_
      refine wq_iadd_ok h0 kd_M_amend_308 ?_
      refine wq_icmp_ge_ok (tgt := 391) h0 kd_M_amend_309 (by decide) ?_ ?_
      · exact hb_391
      refine wq_aload_n_ok h0 kd_M_amend_312 rfl ?_
      refine wq_get_ok (wq_getOK h0 hts ki_M hown hK (ci := 9) rfl 58 (Nat.le_of_ble_eq_true rfl) kw_1040 rfl) kd_M_amend_313 ?_
      refine wq_aload_n_ok h0 kd_M_amend_316 rfl ?_
      refine wq_get_ok (wq_getOK h0 hts ki_M hown hK (ci := 9) rfl 48 (Nat.le_of_ble_eq_true rfl) kw_1030 rfl) kd_M_amend_317 ?_
      refine wq_iload_ok h0 kd_M_amend_320 ?_
      refine wq_iald_ok h0 hK kd_M_amend_322 ?_
      refine wq_aload_n_ok h0 kd_M_amend_323 rfl ?_
      refine wq_get_ok (wq_getOK h0 hts ki_M hown hK (ci := 9) rfl 45 (Nat.le_of_ble_eq_true rfl) kw_1027 rfl) kd_M_amend_324 ?_
      refine wq_iconst_ok h0 kd_M_amend_327 (by decide +kernel) ?_
      refine wq_iload_ok h0 kd_M_amend_328 ?_
      refine wq_imul_ok h0 kd_M_amend_330 ?_
      refine wq_iald_ok h0 hK kd_M_amend_331 ?_
      refine wq_iast_ok h0 hK kd_M_amend_332 ?_
      refine wq_aload_n_ok h0 kd_M_amend_333 rfl ?_
      refine wq_get_ok (wq_getOK h0 hts ki_M hown hK (ci := 9) rfl 60 (Nat.le_of_ble_eq_true rfl) kw_1042 rfl) kd_M_amend_334 ?_
      refine wq_aload_n_ok h0 kd_M_amend_337 rfl ?_
      refine wq_get_ok (wq_getOK h0 hts ki_M hown hK (ci := 9) rfl 48 (Nat.le_of_ble_eq_true rfl) kw_1030 rfl) kd_M_amend_338 ?_
      refine wq_iload_ok h0 kd_M_amend_341 ?_
      refine wq_iald_ok h0 hK kd_M_amend_343 ?_
      refine wq_aload_n_ok h0 kd_M_amend_344 rfl ?_
      refine wq_get_ok (wq_getOK h0 hts ki_M hown hK (ci := 9) rfl 51 (Nat.le_of_ble_eq_true rfl) kw_1033 rfl) kd_M_amend_345 ?_
      refine wq_iload_ok h0 kd_M_amend_348 ?_
      refine wq_lald_ok h0 hK kd_M_amend_350 ?_
      refine wq_last_ok h0 hK kd_M_amend_351 ?_
      refine wq_aload_n_ok h0 kd_M_amend_352 rfl ?_
      refine wq_aload_n_ok h0 kd_M_amend_353 rfl ?_
      refine wq_get_ok (wq_getOK h0 hts ki_M hown hK (ci := 9) rfl 44 (Nat.le_of_ble_eq_true rfl) kw_1026 rfl) kd_M_amend_354 ?_
      refine wq_iload_ok h0 kd_M_amend_357 ?_
      refine wq_zald_ok h0 hK kd_M_amend_359 ?_
      refine wq_if_eq_ok (tgt := 370) h0 kd_M_amend_360 (by decide) ?_ ?_
      · exact hb_370
      refine wq_aload_n_ok h0 kd_M_amend_363 rfl ?_
      refine wq_get_ok (wq_getOK h0 hts ki_M hown hK (ci := 9) rfl 66 (Nat.le_of_ble_eq_true rfl) kw_1048 rfl) kd_M_amend_364 ?_
      refine wq_goto_ok (tgt := 382) h0 kd_M_amend_367 (by decide) ?_
      exact hb_382
    have hb_69 : wq_Snd p l e ({ frames := 4, cells := 0, slots := 0, locals := 98 } : Room) s m args below meth c 10 cs D kz_cl A (wq_G0 ad w) (wq_Q cs D kz_cl A (wq_G0 ad w) rt xt below s 0 0) 69 (kt_M_amend_69 rt xt K) := by
      refine wq_aload_n_ok h0 kd_M_amend_69 rfl ?_
      refine wq_get_ok (wq_getOK h0 hts ki_M hown hK (ci := 9) rfl 45 (Nat.le_of_ble_eq_true rfl) kw_1027 rfl) kd_M_amend_70 ?_
      refine wq_iconst_ok h0 kd_M_amend_73 (by decide +kernel) ?_
      refine wq_iconst_ok h0 kd_M_amend_74 (by decide +kernel) ?_
      refine wq_iload_n_ok h0 kd_M_amend_75 rfl ?_
      refine wq_imul_ok h0 kd_M_amend_76 ?_
      refine wq_iload_n_ok h0 kd_M_amend_77 rfl ?_
      refine wq_iadd_ok h0 kd_M_amend_78 ?_
      refine wq_imul_ok h0 kd_M_amend_79 ?_
      refine wq_iload_n_ok h0 kd_M_amend_80 rfl ?_
      refine wq_iadd_ok h0 kd_M_amend_81 ?_
      refine wq_iload_ok h0 kd_M_amend_82 ?_
      refine wq_iast_ok h0 hK kd_M_amend_84 ?_
      refine wq_lconst_ok h0 kd_M_amend_85 (by decide +kernel) ?_
      refine wq_lstore_ok h0 kd_M_amend_86 (Nat.le_of_ble_eq_true rfl) ?_
      refine wq_aload_n_ok h0 kd_M_amend_88 rfl ?_
      refine wq_call_ok hA (wq_runV (ci := 9) ⟨h0.1, h0.2, hml, hown, hts⟩ (kv_M_mean hl) ⟨(wq_cB hts kw_G kw_1342 kw_10 kw_1339 ⟨by decide +kernel, by decide +kernel, by decide +kernel⟩ rfl rfl ⟨Nat.le_of_ble_eq_true rfl, Nat.le_of_ble_eq_true rfl⟩), hts _ kw_1341, hts _ kw_s46⟩ rfl rfl hK hZ hN hA kd_M_amend_89) (wq_xout_ok hnt hlk) ?_
      refine wq_iconst_ok h0 kd_M_amend_92 (by decide +kernel) ?_
      refine wq_istore_ok h0 kd_M_amend_93 (Nat.le_of_ble_eq_true rfl) ?_
      exact wq_can_ok (hKc 95 (by decide))
    have hb_57 : wq_Snd p l e ({ frames := 4, cells := 0, slots := 0, locals := 98 } : Room) s m args below meth c 10 cs D kz_cl A (wq_G0 ad w) (wq_Q cs D kz_cl A (wq_G0 ad w) rt xt below s 0 0) 57 (kt_M_amend_57 rt xt K) := by
      refine wq_put_ok (wq_putOK h0 hts ki_M ka_M kb_M kn_M hown hK (ci := 9) rfl 0 (Nat.le_of_ble_eq_true rfl) kw_982 rfl (Or.inl rfl) wq_okI) kd_M_amend_57 ?_
      refine wq_aload_n_ok h0 kd_M_amend_60 rfl ?_
      refine wq_get_ok (wq_getOK h0 hts ki_M hown hK (ci := 9) rfl 0 (Nat.le_of_ble_eq_true rfl) kw_982 rfl) kd_M_amend_61 ?_
      refine wq_if_le_ok (tgt := 69) h0 kd_M_amend_64 (by decide) ?_ ?_
      · exact hb_69
      refine wq_lconst_ok h0 kd_M_amend_67 (by decide +kernel) ?_
      exact wq_lreturn_ok h0 hr hlk kd_M_amend_68
    have hb_28 : wq_Snd p l e ({ frames := 4, cells := 0, slots := 0, locals := 98 } : Room) s m args below meth c 10 cs D kz_cl A (wq_G0 ad w) (wq_Q cs D kz_cl A (wq_G0 ad w) rt xt below s 0 0) 28 (kt_M_amend_28 rt xt K) := by
      refine wq_iconst_ok h0 kd_M_amend_28 (by decide +kernel) ?_
      refine wq_goto_ok (tgt := 57) h0 kd_M_amend_29 (by decide) ?_
      exact hb_57
    have hb_56 : wq_Snd p l e ({ frames := 4, cells := 0, slots := 0, locals := 98 } : Room) s m args below meth c 10 cs D kz_cl A (wq_G0 ad w) (wq_Q cs D kz_cl A (wq_G0 ad w) rt xt below s 0 0) 56 (kt_M_amend_56 rt xt K) := by
      refine wq_iconst_ok h0 kd_M_amend_56 (by decide +kernel) ?_
      exact hb_57
    have hb_44 : wq_Snd p l e ({ frames := 4, cells := 0, slots := 0, locals := 98 } : Room) s m args below meth c 10 cs D kz_cl A (wq_G0 ad w) (wq_Q cs D kz_cl A (wq_G0 ad w) rt xt below s 0 0) 44 (kt_M_amend_44 rt xt K) := by
      refine wq_aload_n_ok h0 kd_M_amend_44 rfl ?_
      refine wq_iload_n_ok h0 kd_M_amend_45 rfl ?_
      refine wq_call_ok hA (wq_runV (ci := 9) ⟨h0.1, h0.2, hml, hown, hts⟩ (kv_M_find hl) ⟨(wq_cB hts kw_G kw_1330 kw_10 kw_1327 ⟨by decide +kernel, by decide +kernel, by decide +kernel⟩ rfl rfl ⟨Nat.le_of_ble_eq_true rfl, Nat.le_of_ble_eq_true rfl⟩), hts _ kw_1329, hts _ kw_s43⟩ rfl rfl hK hZ hN hA kd_M_amend_46) (wq_xout_ok hnt hlk) ?_
      refine wq_if_ne_ok (tgt := 56) h0 kd_M_amend_49 (by decide) ?_ ?_
      · exact hb_56
      refine wq_iconst_ok h0 kd_M_amend_52 (by decide +kernel) ?_
      refine wq_goto_ok (tgt := 57) h0 kd_M_amend_53 (by decide) ?_
      exact hb_57
    have hb_32 : wq_Snd p l e ({ frames := 4, cells := 0, slots := 0, locals := 98 } : Room) s m args below meth c 10 cs D kz_cl A (wq_G0 ad w) (wq_Q cs D kz_cl A (wq_G0 ad w) rt xt below s 0 0) 32 (kt_M_amend_32 rt xt K) := by
      refine wq_aload_n_ok h0 kd_M_amend_32 rfl ?_
      refine wq_iload_n_ok h0 kd_M_amend_33 rfl ?_
      refine wq_call_ok hA (wq_runV (ci := 9) ⟨h0.1, h0.2, hml, hown, hts⟩ (kv_M_isWhole hl) ⟨(wq_cB hts kw_G kw_1376 kw_10 kw_1373 ⟨by decide +kernel, by decide +kernel, by decide +kernel⟩ rfl rfl ⟨Nat.le_of_ble_eq_true rfl, Nat.le_of_ble_eq_true rfl⟩), hts _ kw_1375, hts _ kw_s52⟩ rfl rfl hK hZ hN hA kd_M_amend_34) (wq_xout_ok hnt hlk) ?_
      refine wq_if_ne_ok (tgt := 44) h0 kd_M_amend_37 (by decide) ?_ ?_
      · exact hb_44
      refine wq_iconst_ok h0 kd_M_amend_40 (by decide +kernel) ?_
      refine wq_goto_ok (tgt := 57) h0 kd_M_amend_41 (by decide) ?_
      exact hb_57
    have hb_0 : wq_Snd p l e ({ frames := 4, cells := 0, slots := 0, locals := 98 } : Room) s m args below meth c 10 cs D kz_cl A (wq_G0 ad w) (wq_Q cs D kz_cl A (wq_G0 ad w) rt xt below s 0 0) 0 (kt_M_amend_0 rt xt K) := by
      refine wq_aload_n_ok h0 kd_M_amend_0 rfl ?_
      refine wq_aload_n_ok h0 kd_M_amend_1 rfl ?_
      refine wq_iload_n_ok h0 kd_M_amend_2 rfl ?_
      refine wq_iload_n_ok h0 kd_M_amend_3 rfl ?_
      refine wq_call_ok hA (wq_runV (ci := 9) ⟨h0.1, h0.2, hml, hown, hts⟩ (kv_M_isLine hl) ⟨(wq_cB hts kw_G kw_1317 kw_10 kw_1314 ⟨by decide +kernel, by decide +kernel, by decide +kernel⟩ rfl rfl ⟨Nat.le_of_ble_eq_true rfl, Nat.le_of_ble_eq_true rfl⟩), hts _ kw_1316, hts _ kw_s40⟩ rfl rfl hK hZ hN hA kd_M_amend_4) (wq_xout_ok hnt hlk) ?_
      refine wq_if_eq_ok (tgt := 28) h0 kd_M_amend_7 (by decide) ?_ ?_
      · exact hb_28
      refine wq_iload_n_ok h0 kd_M_amend_10 rfl ?_
      refine wq_iconst_ok h0 kd_M_amend_11 (by decide +kernel) ?_
      refine wq_iconst_ok h0 kd_M_amend_12 (by decide +kernel) ?_
      refine wq_call_ok hA (wq_runS ⟨h0.1, h0.2, hml, hown, hts⟩ (kv_M_within hl) ⟨(wq_cB hts kw_G kw_1209 kw_10 kw_1207 ⟨by decide +kernel, by decide +kernel, by decide +kernel⟩ rfl rfl ⟨Nat.le_of_ble_eq_true rfl, Nat.le_of_ble_eq_true rfl⟩), hts _ kw_1208⟩ hK hZ hN hA kd_M_amend_13) (wq_xout_ok hnt hlk) ?_
      refine wq_if_eq_ok (tgt := 28) h0 kd_M_amend_16 (by decide) ?_ ?_
      · exact hb_28
      refine wq_iload_n_ok h0 kd_M_amend_19 rfl ?_
      refine wq_iload_ok h0 kd_M_amend_20 ?_
      refine wq_call_ok hA (wq_runS ⟨h0.1, h0.2, hml, hown, hts⟩ (kv_M_isField hl) ⟨(wq_cB hts kw_G kw_1303 kw_10 kw_1301 ⟨by decide +kernel, by decide +kernel, by decide +kernel⟩ rfl rfl ⟨Nat.le_of_ble_eq_true rfl, Nat.le_of_ble_eq_true rfl⟩), hts _ kw_1302⟩ hK hZ hN hA kd_M_amend_22) (wq_xout_ok hnt hlk) ?_
      refine wq_if_ne_ok (tgt := 32) h0 kd_M_amend_25 (by decide) ?_ ?_
      · exact hb_32
      exact hb_28
    refine ⟨?_, hb_0⟩
    exact List.forall_mem_cons.mpr ⟨hb_95, List.forall_mem_cons.mpr ⟨hb_297, fun _ h => absurd h List.not_mem_nil⟩⟩
  have hun : ∀ (n pc : Nat), pc ∈ [95, 297] → wq_Snd p l e ({ frames := 4, cells := 0, slots := 0, locals := 98 } : Room) s m args below meth c 10 cs D kz_cl A (wq_G0 ad w) (wq_Q cs D kz_cl A (wq_G0 ad w) rt xt below s 0 0) pc (ku_M_amend rt xt n pc) := by
    intro n
    induction n with
    | zero => intro pc _ L S w9 n1 n2 h; exact h.elim
    | succ n ih => intro pc hpc; exact (hall (ku_M_amend rt xt n) ih).1 pc hpc
  exact (hall (ku_M_amend rt xt 1000000000000) (hun 1000000000000)).2 _ _ _ _ _ (wq_sp_t hsp)
set_option maxRecDepth 100000 in
set_option maxHeartbeats 4000000 in
theorem kv_M_left {l : Launch} (hl : l.stackTraces = false) : wq_Vld l kz_cl ky_M_left kw_T ({ frames := 0, cells := 0, slots := 0, locals := 0 }) wq_G0 ks_M_left 0 0 := by
  refine wq_method (cc := kc_M_left) (maxL := 5) (ret := (some .int)) (by decide) kw_1384 (fun _ _ => rfl) wq_sp_sz ?_
  intro p e s m args below meth c cs D ad as w rt xt hF hnt hsp
  obtain ⟨h0, hr, hts, hown, hlk, hnm, hml, hK, hZ, hN, hA⟩ := hF
  have hown : s.vm.findClass "BorderDeskModel" = some m.cls := hown
  obtain ⟨A, hAe⟩ : ∃ A, A = wq_A ad w s.heap.size := ⟨_, rfl⟩
  rw [← hAe] at hZ hA ⊢
  have hall : ∀ K : Nat → wq_T, (∀ pc, pc ∈ [5] → wq_Snd p l e ({ frames := 0, cells := 0, slots := 0, locals := 0 } : Room) s m args below meth c 5 cs D kz_cl A (wq_G0 ad w) (wq_Q cs D kz_cl A (wq_G0 ad w) rt xt below s 0 0) pc (K pc)) → (∀ pc, pc ∈ [5] → wq_Snd p l e ({ frames := 0, cells := 0, slots := 0, locals := 0 } : Room) s m args below meth c 5 cs D kz_cl A (wq_G0 ad w) (wq_Q cs D kz_cl A (wq_G0 ad w) rt xt below s 0 0) pc (cond (Nat.beq pc 5) (kh_M_left_5 rt xt K) (fun _ _ _ _ _ => False))) ∧ wq_Snd p l e ({ frames := 0, cells := 0, slots := 0, locals := 0 } : Room) s m args below meth c 5 cs D kz_cl A (wq_G0 ad w) (wq_Q cs D kz_cl A (wq_G0 ad w) rt xt below s 0 0) 0 (kt_M_left_0 rt xt K) := by
    intro K hKc
    have hb_64 : wq_Snd p l e ({ frames := 0, cells := 0, slots := 0, locals := 0 } : Room) s m args below meth c 5 cs D kz_cl A (wq_G0 ad w) (wq_Q cs D kz_cl A (wq_G0 ad w) rt xt below s 0 0) 64 (kt_M_left_64 rt xt K) := by
      refine wq_iload_n_ok h0 kd_M_left_64 rfl ?_
      exact wq_ireturn_ok h0 hr hlk kd_M_left_65
    have hb_57 : wq_Snd p l e ({ frames := 0, cells := 0, slots := 0, locals := 0 } : Room) s m args below meth c 5 cs D kz_cl A (wq_G0 ad w) (wq_Q cs D kz_cl A (wq_G0 ad w) rt xt below s 0 0) 57 (kt_M_left_57 rt xt K) := by
      refine wq_istore_n_ok h0 kd_M_left_57 rfl (Nat.le_of_ble_eq_true rfl) ?_
      refine wq_iinc_ok h0 kd_M_left_58 (by decide +kernel) (Nat.le_of_ble_eq_true rfl) ?_
      refine wq_goto_ok (tgt := 5) h0 kd_M_left_61 (by decide) ?_
      exact wq_can_ok (hKc 5 (by decide))
    have hb_56 : wq_Snd p l e ({ frames := 0, cells := 0, slots := 0, locals := 0 } : Room) s m args below meth c 5 cs D kz_cl A (wq_G0 ad w) (wq_Q cs D kz_cl A (wq_G0 ad w) rt xt below s 0 0) 56 (kt_M_left_56 rt xt K) := by
      refine wq_iload_n_ok h0 kd_M_left_56 rfl ?_
      exact hb_57
    have hb_5 : wq_Snd p l e ({ frames := 0, cells := 0, slots := 0, locals := 0 } : Room) s m args below meth c 5 cs D kz_cl A (wq_G0 ad w) (wq_Q cs D kz_cl A (wq_G0 ad w) rt xt below s 0 0) 5 (kh_M_left_5 rt xt K) := by
      refine wq_iload_ok h0 kd_M_left_5 ?_
      refine wq_aload_n_ok h0 kd_M_left_7 rfl ?_
      refine wq_get_ok (wq_getOK h0 hts ki_M hown hK (ci := 9) rfl 56 (Nat.le_of_ble_eq_true rfl) kw_1038 rfl) kd_M_left_8 ?_
      refine wq_icmp_ge_ok (tgt := 64) h0 kd_M_left_11 (by decide) ?_ ?_
      · exact hb_64
      refine wq_aload_n_ok h0 kd_M_left_14 rfl ?_
      refine wq_get_ok (wq_getOK h0 hts ki_M hown hK (ci := 9) rfl 57 (Nat.le_of_ble_eq_true rfl) kw_1039 rfl) kd_M_left_15 ?_
      refine wq_iload_ok h0 kd_M_left_18 ?_
      refine wq_iald_ok h0 hK kd_M_left_20 ?_
      refine wq_iload_n_ok h0 kd_M_left_21 rfl ?_
      refine wq_icmp_ne_ok (tgt := 56) h0 kd_M_left_22 (by decide) ?_ ?_
      · exact hb_56
      refine wq_aload_n_ok h0 kd_M_left_25 rfl ?_
      refine wq_get_ok (wq_getOK h0 hts ki_M hown hK (ci := 9) rfl 61 (Nat.le_of_ble_eq_true rfl) kw_1043 rfl) kd_M_left_26 ?_
      refine wq_iload_ok h0 kd_M_left_29 ?_
      refine wq_zald_ok h0 hK kd_M_left_31 ?_
      refine wq_iload_n_ok h0 kd_M_left_32 rfl ?_
      refine wq_icmp_ne_ok (tgt := 56) h0 kd_M_left_33 (by decide) ?_ ?_
      · exact hb_56
      refine wq_iload_n_ok h0 kd_M_left_36 rfl ?_
      refine wq_aload_n_ok h0 kd_M_left_37 rfl ?_
      refine wq_get_ok (wq_getOK h0 hts ki_M hown hK (ci := 9) rfl 58 (Nat.le_of_ble_eq_true rfl) kw_1040 rfl) kd_M_left_38 ?_
      refine wq_iload_ok h0 kd_M_left_41 ?_
      refine wq_iald_ok h0 hK kd_M_left_43 ?_
      refine wq_iadd_ok h0 kd_M_left_44 ?_
      refine wq_aload_n_ok h0 kd_M_left_45 rfl ?_
      refine wq_get_ok (wq_getOK h0 hts ki_M hown hK (ci := 9) rfl 59 (Nat.le_of_ble_eq_true rfl) kw_1041 rfl) kd_M_left_46 ?_
      refine wq_iload_ok h0 kd_M_left_49 ?_
      refine wq_iald_ok h0 hK kd_M_left_51 ?_
      refine wq_isub_ok h0 kd_M_left_52 ?_
      refine wq_goto_ok (tgt := 57) h0 kd_M_left_53 (by decide) ?_
      exact hb_57
    have hb_0 : wq_Snd p l e ({ frames := 0, cells := 0, slots := 0, locals := 0 } : Room) s m args below meth c 5 cs D kz_cl A (wq_G0 ad w) (wq_Q cs D kz_cl A (wq_G0 ad w) rt xt below s 0 0) 0 (kt_M_left_0 rt xt K) := by
      refine wq_iconst_ok h0 kd_M_left_0 (by decide +kernel) ?_
      refine wq_istore_n_ok h0 kd_M_left_1 rfl (Nat.le_of_ble_eq_true rfl) ?_
      refine wq_iconst_ok h0 kd_M_left_2 (by decide +kernel) ?_
      refine wq_istore_ok h0 kd_M_left_3 (Nat.le_of_ble_eq_true rfl) ?_
      exact wq_can_ok (hKc 5 (by decide))
    refine ⟨?_, hb_0⟩
    exact List.forall_mem_cons.mpr ⟨hb_5, fun _ h => absurd h List.not_mem_nil⟩
  have hun : ∀ (n pc : Nat), pc ∈ [5] → wq_Snd p l e ({ frames := 0, cells := 0, slots := 0, locals := 0 } : Room) s m args below meth c 5 cs D kz_cl A (wq_G0 ad w) (wq_Q cs D kz_cl A (wq_G0 ad w) rt xt below s 0 0) pc (ku_M_left rt xt n pc) := by
    intro n
    induction n with
    | zero => intro pc _ L S w9 n1 n2 h; exact h.elim
    | succ n ih => intro pc hpc; exact (hall (ku_M_left rt xt n) ih).1 pc hpc
  exact (hall (ku_M_left rt xt 1000000000000) (hun 1000000000000)).2 _ _ _ _ _ (wq_sp_t hsp)
set_option maxRecDepth 100000 in
set_option maxHeartbeats 4000000 in
theorem kv_M_take {l : Launch} (hl : l.stackTraces = false) : wq_Vld l kz_cl ky_M_take kw_T ({ frames := 0, cells := 0, slots := 0, locals := 0 }) wq_G0 ks_M_take 0 0 := by
  refine wq_method (cc := kc_M_take) (maxL := 8) (ret := (some .long)) (by decide) kw_1388 (fun _ _ => rfl) wq_sp_sz ?_
  intro p e s m args below meth c cs D ad as w rt xt hF hnt hsp
  obtain ⟨h0, hr, hts, hown, hlk, hnm, hml, hK, hZ, hN, hA⟩ := hF
  have hown : s.vm.findClass "BorderDeskModel" = some m.cls := hown
  obtain ⟨A, hAe⟩ : ∃ A, A = wq_A ad w s.heap.size := ⟨_, rfl⟩
  rw [← hAe] at hZ hA ⊢
  have hall : ∀ K : Nat → wq_T, (∀ pc, pc ∈ [9, 18] → wq_Snd p l e ({ frames := 0, cells := 0, slots := 0, locals := 0 } : Room) s m args below meth c 8 cs D kz_cl A (wq_G0 ad w) (wq_Q cs D kz_cl A (wq_G0 ad w) rt xt below s 0 0) pc (K pc)) → (∀ pc, pc ∈ [9, 18] → wq_Snd p l e ({ frames := 0, cells := 0, slots := 0, locals := 0 } : Room) s m args below meth c 8 cs D kz_cl A (wq_G0 ad w) (wq_Q cs D kz_cl A (wq_G0 ad w) rt xt below s 0 0) pc (cond (Nat.beq pc 9) (kh_M_take_9 rt xt K) (cond (Nat.beq pc 18) (kh_M_take_18 rt xt K) (fun _ _ _ _ _ => False)))) ∧ wq_Snd p l e ({ frames := 0, cells := 0, slots := 0, locals := 0 } : Room) s m args below meth c 8 cs D kz_cl A (wq_G0 ad w) (wq_Q cs D kz_cl A (wq_G0 ad w) rt xt below s 0 0) 0 (kt_M_take_0 rt xt K) := by
    intro K hKc
    have hb_145 : wq_Snd p l e ({ frames := 0, cells := 0, slots := 0, locals := 0 } : Room) s m args below meth c 8 cs D kz_cl A (wq_G0 ad w) (wq_Q cs D kz_cl A (wq_G0 ad w) rt xt below s 0 0) 145 (kt_M_take_145 rt xt K) := by
      refine wq_lload_ok h0 kd_M_take_145 ?_
      exact wq_lreturn_ok h0 hr hlk kd_M_take_147
    have hb_9 : wq_Snd p l e ({ frames := 0, cells := 0, slots := 0, locals := 0 } : Room) s m args below meth c 8 cs D kz_cl A (wq_G0 ad w) (wq_Q cs D kz_cl A (wq_G0 ad w) rt xt below s 0 0) 9 (kh_M_take_9 rt xt K) := by
      refine wq_iload_ok h0 kd_M_take_9 ?_
      refine wq_aload_n_ok h0 kd_M_take_11 rfl ?_
      refine wq_get_ok (wq_getOK h0 hts ki_M hown hK (ci := 9) rfl 56 (Nat.le_of_ble_eq_true rfl) kw_1038 rfl) kd_M_take_12 ?_
      refine wq_icmp_ge_ok (tgt := 145) h0 kd_M_take_15 (by decide) ?_ ?_
      · exact hb_145
      exact wq_can_ok (hKc 18 (by decide))
    have hb_139 : wq_Snd p l e ({ frames := 0, cells := 0, slots := 0, locals := 0 } : Room) s m args below meth c 8 cs D kz_cl A (wq_G0 ad w) (wq_Q cs D kz_cl A (wq_G0 ad w) rt xt below s 0 0) 139 (kt_M_take_139 rt xt K) := by
      refine wq_iinc_ok h0 kd_M_take_139 (by decide +kernel) (Nat.le_of_ble_eq_true rfl) ?_
      refine wq_goto_ok (tgt := 9) h0 kd_M_take_142 (by decide) ?_
      exact wq_can_ok (hKc 9 (by decide))
    have hb_18 : wq_Snd p l e ({ frames := 0, cells := 0, slots := 0, locals := 0 } : Room) s m args below meth c 8 cs D kz_cl A (wq_G0 ad w) (wq_Q cs D kz_cl A (wq_G0 ad w) rt xt below s 0 0) 18 (kh_M_take_18 rt xt K) := by
      refine wq_iload_ok h0 kd_M_take_18 ?_
      refine wq_if_le_ok (tgt := 139) h0 kd_M_take_20 (by decide) ?_ ?_
      · exact hb_139
      refine wq_aload_n_ok h0 kd_M_take_23 rfl ?_
      refine wq_get_ok (wq_getOK h0 hts ki_M hown hK (ci := 9) rfl 57 (Nat.le_of_ble_eq_true rfl) kw_1039 rfl) kd_M_take_24 ?_
      refine wq_iload_ok h0 kd_M_take_27 ?_
      refine wq_iald_ok h0 hK kd_M_take_29 ?_
      refine wq_iload_n_ok h0 kd_M_take_30 rfl ?_
      refine wq_icmp_ne_ok (tgt := 139) h0 kd_M_take_31 (by decide) ?_ ?_
      · exact hb_139
      refine wq_aload_n_ok h0 kd_M_take_34 rfl ?_
      refine wq_get_ok (wq_getOK h0 hts ki_M hown hK (ci := 9) rfl 61 (Nat.le_of_ble_eq_true rfl) kw_1043 rfl) kd_M_take_35 ?_
      refine wq_iload_ok h0 kd_M_take_38 ?_
      refine wq_zald_ok h0 hK kd_M_take_40 ?_
      refine wq_iload_n_ok h0 kd_M_take_41 rfl ?_
      refine wq_icmp_ne_ok (tgt := 139) h0 kd_M_take_42 (by decide) ?_ ?_
      · exact hb_139
      refine wq_aload_n_ok h0 kd_M_take_45 rfl ?_
      refine wq_get_ok (wq_getOK h0 hts ki_M hown hK (ci := 9) rfl 59 (Nat.le_of_ble_eq_true rfl) kw_1041 rfl) kd_M_take_46 ?_
      refine wq_iload_ok h0 kd_M_take_49 ?_
      refine wq_iald_ok h0 hK kd_M_take_51 ?_
      refine wq_aload_n_ok h0 kd_M_take_52 rfl ?_
      refine wq_get_ok (wq_getOK h0 hts ki_M hown hK (ci := 9) rfl 58 (Nat.le_of_ble_eq_true rfl) kw_1040 rfl) kd_M_take_53 ?_
      refine wq_iload_ok h0 kd_M_take_56 ?_
      refine wq_iald_ok h0 hK kd_M_take_58 ?_
      refine wq_icmp_ge_ok (tgt := 139) h0 kd_M_take_59 (by decide) ?_ ?_
      · exact hb_139
      refine wq_lload_ok h0 kd_M_take_62 ?_
      refine wq_aload_n_ok h0 kd_M_take_64 rfl ?_
      refine wq_get_ok (wq_getOK h0 hts ki_M hown hK (ci := 9) rfl 60 (Nat.le_of_ble_eq_true rfl) kw_1042 rfl) kd_M_take_65 ?_
      refine wq_iload_ok h0 kd_M_take_68 ?_
      refine wq_lald_ok h0 hK kd_M_take_70 ?_
      refine wq_aload_n_ok h0 kd_M_take_71 rfl ?_
      refine wq_get_ok (wq_getOK h0 hts ki_M hown hK (ci := 9) rfl 59 (Nat.le_of_ble_eq_true rfl) kw_1041 rfl) kd_M_take_72 ?_
      refine wq_iload_ok h0 kd_M_take_75 ?_
      refine wq_iald_ok h0 hK kd_M_take_77 ?_
      refine wq_i2l_ok h0 kd_M_take_78 ?_
      refine wq_lmul_ok h0 kd_M_take_79 ?_
      refine wq_aload_n_ok h0 kd_M_take_80 rfl ?_
      refine wq_get_ok (wq_getOK h0 hts ki_M hown hK (ci := 9) rfl 58 (Nat.le_of_ble_eq_true rfl) kw_1040 rfl) kd_M_take_81 ?_
      refine wq_iload_ok h0 kd_M_take_84 ?_
      refine wq_iald_ok h0 hK kd_M_take_86 ?_
      refine wq_i2l_ok h0 kd_M_take_87 ?_
      refine wq_ldiv_ok h0 kd_M_take_88 ?_
      refine wq_lsub_ok h0 kd_M_take_89 ?_
      refine wq_lstore_ok h0 kd_M_take_90 (Nat.le_of_ble_eq_true rfl) ?_
      refine wq_aload_n_ok h0 kd_M_take_92 rfl ?_
      refine wq_get_ok (wq_getOK h0 hts ki_M hown hK (ci := 9) rfl 59 (Nat.le_of_ble_eq_true rfl) kw_1041 rfl) kd_M_take_93 ?_
      refine wq_iload_ok h0 kd_M_take_96 ?_
      refine wq_dup2_ok h0 kd_M_take_98 ?_
      refine wq_iald_ok h0 hK kd_M_take_99 ?_
      refine wq_iconst_ok h0 kd_M_take_100 (by decide +kernel) ?_
      refine wq_iadd_ok h0 kd_M_take_101 ?_
      refine wq_iast_ok h0 hK kd_M_take_102 ?_
      refine wq_lload_ok h0 kd_M_take_103 ?_
      refine wq_aload_n_ok h0 kd_M_take_105 rfl ?_
      refine wq_get_ok (wq_getOK h0 hts ki_M hown hK (ci := 9) rfl 60 (Nat.le_of_ble_eq_true rfl) kw_1042 rfl) kd_M_take_106 ?_
      refine wq_iload_ok h0 kd_M_take_109 ?_
      refine wq_lald_ok h0 hK kd_M_take_111 ?_
      refine wq_aload_n_ok h0 kd_M_take_112 rfl ?_
      refine wq_get_ok (wq_getOK h0 hts ki_M hown hK (ci := 9) rfl 59 (Nat.le_of_ble_eq_true rfl) kw_1041 rfl) kd_M_take_113 ?_
      refine wq_iload_ok h0 kd_M_take_116 ?_
      refine wq_iald_ok h0 hK kd_M_take_118 ?_
      refine wq_i2l_ok h0 kd_M_take_119 ?_
      refine wq_lmul_ok h0 kd_M_take_120 ?_
      refine wq_aload_n_ok h0 kd_M_take_121 rfl ?_
      refine wq_get_ok (wq_getOK h0 hts ki_M hown hK (ci := 9) rfl 58 (Nat.le_of_ble_eq_true rfl) kw_1040 rfl) kd_M_take_122 ?_
      refine wq_iload_ok h0 kd_M_take_125 ?_
      refine wq_iald_ok h0 hK kd_M_take_127 ?_
      refine wq_i2l_ok h0 kd_M_take_128 ?_
      refine wq_ldiv_ok h0 kd_M_take_129 ?_
      refine wq_ladd_ok h0 kd_M_take_130 ?_
      refine wq_lstore_ok h0 kd_M_take_131 (Nat.le_of_ble_eq_true rfl) ?_
      refine wq_iinc_ok h0 kd_M_take_133 (by decide +kernel) (Nat.le_of_ble_eq_true rfl) ?_
      refine wq_goto_ok (tgt := 18) h0 kd_M_take_136 (by decide) ?_
      exact wq_can_ok (hKc 18 (by decide))
    have hb_0 : wq_Snd p l e ({ frames := 0, cells := 0, slots := 0, locals := 0 } : Room) s m args below meth c 8 cs D kz_cl A (wq_G0 ad w) (wq_Q cs D kz_cl A (wq_G0 ad w) rt xt below s 0 0) 0 (kt_M_take_0 rt xt K) := by
      refine wq_lconst_ok h0 kd_M_take_0 (by decide +kernel) ?_
      refine wq_lstore_ok h0 kd_M_take_1 (Nat.le_of_ble_eq_true rfl) ?_
      refine wq_iload_n_ok h0 kd_M_take_3 rfl ?_
      refine wq_istore_ok h0 kd_M_take_4 (Nat.le_of_ble_eq_true rfl) ?_
      refine wq_iconst_ok h0 kd_M_take_6 (by decide +kernel) ?_
      refine wq_istore_ok h0 kd_M_take_7 (Nat.le_of_ble_eq_true rfl) ?_
      exact wq_can_ok (hKc 9 (by decide))
    refine ⟨?_, hb_0⟩
    exact List.forall_mem_cons.mpr ⟨hb_9, List.forall_mem_cons.mpr ⟨hb_18, fun _ h => absurd h List.not_mem_nil⟩⟩
  have hun : ∀ (n pc : Nat), pc ∈ [9, 18] → wq_Snd p l e ({ frames := 0, cells := 0, slots := 0, locals := 0 } : Room) s m args below meth c 8 cs D kz_cl A (wq_G0 ad w) (wq_Q cs D kz_cl A (wq_G0 ad w) rt xt below s 0 0) pc (ku_M_take rt xt n pc) := by
    intro n
    induction n with
    | zero => intro pc _ L S w9 n1 n2 h; exact h.elim
    | succ n ih => intro pc hpc; exact (hall (ku_M_take rt xt n) ih).1 pc hpc
  exact (hall (ku_M_take rt xt 1000000000000) (hun 1000000000000)).2 _ _ _ _ _ (wq_sp_t hsp)
set_option maxRecDepth 100000 in
set_option maxHeartbeats 4000000 in
theorem kv_M_release {l : Launch} (hl : l.stackTraces = false) : wq_Vld l kz_cl ky_M_release kw_T ({ frames := 1, cells := 0, slots := 0, locals := 27 }) wq_G0 ks_M_release 0 0 := by
  refine wq_method (cc := kc_M_release) (maxL := 5) (ret := (some .long)) (by decide) kw_1380 (fun _ _ => rfl) wq_sp_sz ?_
  intro p e s m args below meth c cs D ad as w rt xt hF hnt hsp
  obtain ⟨h0, hr, hts, hown, hlk, hnm, hml, hK, hZ, hN, hA⟩ := hF
  have hown : s.vm.findClass "BorderDeskModel" = some m.cls := hown
  obtain ⟨A, hAe⟩ : ∃ A, A = wq_A ad w s.heap.size := ⟨_, rfl⟩
  rw [← hAe] at hZ hA ⊢
  have hb_50 : wq_Snd p l e ({ frames := 1, cells := 0, slots := 0, locals := 27 } : Room) s m args below meth c 5 cs D kz_cl A (wq_G0 ad w) (wq_Q cs D kz_cl A (wq_G0 ad w) rt xt below s 0 0) 50 (kt_M_release_50 rt xt) := by
    refine wq_aload_n_ok h0 kd_M_release_50 rfl ?_
    refine wq_iload_n_ok h0 kd_M_release_51 rfl ?_
    refine wq_iload_n_ok h0 kd_M_release_52 rfl ?_
    refine wq_iconst_ok h0 kd_M_release_53 (by decide +kernel) ?_
    refine wq_call_ok hA (wq_runV (ci := 9) ⟨h0.1, h0.2, hml, hown, hts⟩ (kv_M_take hl) ⟨(wq_cB hts kw_G kw_1388 kw_10 kw_1385 ⟨by decide +kernel, by decide +kernel, by decide +kernel⟩ rfl rfl ⟨Nat.le_of_ble_eq_true rfl, Nat.le_of_ble_eq_true rfl⟩), hts _ kw_1387, hts _ kw_s54⟩ rfl rfl hK hZ hN hA kd_M_release_54) (wq_xout_ok hnt hlk) ?_
    refine wq_lstore_n_ok h0 kd_M_release_57 rfl (Nat.le_of_ble_eq_true rfl) ?_
    refine wq_aload_n_ok h0 kd_M_release_58 rfl ?_
    refine wq_get_ok (wq_getOK h0 hts ki_M hown hK (ci := 9) rfl 63 (Nat.le_of_ble_eq_true rfl) kw_1045 rfl) kd_M_release_59 ?_
    refine wq_iload_n_ok h0 kd_M_release_62 rfl ?_
    refine wq_aload_n_ok h0 kd_M_release_63 rfl ?_
    refine wq_get_ok (wq_getOK h0 hts ki_M hown hK (ci := 9) rfl 63 (Nat.le_of_ble_eq_true rfl) kw_1045 rfl) kd_M_release_64 ?_
    refine wq_iload_n_ok h0 kd_M_release_67 rfl ?_
    refine wq_iald_ok h0 hK kd_M_release_68 ?_
    refine wq_iload_n_ok h0 kd_M_release_69 rfl ?_
    refine wq_iadd_ok h0 kd_M_release_70 ?_
    refine wq_iast_ok h0 hK kd_M_release_71 ?_
    refine wq_aload_n_ok h0 kd_M_release_72 rfl ?_
    refine wq_aload_n_ok h0 kd_M_release_73 rfl ?_
    refine wq_get_ok (wq_getOK h0 hts ki_M hown hK (ci := 9) rfl 66 (Nat.le_of_ble_eq_true rfl) kw_1048 rfl) kd_M_release_74 ?_
    refine wq_lload_n_ok h0 kd_M_release_77 rfl ?_
    refine wq_ladd_ok h0 kd_M_release_78 ?_
    refine wq_put_ok (wq_putOK h0 hts ki_M ka_M kb_M kn_M hown hK (ci := 9) rfl 66 (Nat.le_of_ble_eq_true rfl) kw_1048 rfl (Or.inl rfl) wq_okL) kd_M_release_79 ?_
    refine wq_lload_n_ok h0 kd_M_release_82 rfl ?_
    exact wq_lreturn_ok h0 hr hlk kd_M_release_83
  have hb_38 : wq_Snd p l e ({ frames := 1, cells := 0, slots := 0, locals := 27 } : Room) s m args below meth c 5 cs D kz_cl A (wq_G0 ad w) (wq_Q cs D kz_cl A (wq_G0 ad w) rt xt below s 0 0) 38 (kt_M_release_38 rt xt) := by
    refine wq_put_ok (wq_putOK h0 hts ki_M ka_M kb_M kn_M hown hK (ci := 9) rfl 0 (Nat.le_of_ble_eq_true rfl) kw_982 rfl (Or.inl rfl) wq_okI) kd_M_release_38 ?_
    refine wq_aload_n_ok h0 kd_M_release_41 rfl ?_
    refine wq_get_ok (wq_getOK h0 hts ki_M hown hK (ci := 9) rfl 0 (Nat.le_of_ble_eq_true rfl) kw_982 rfl) kd_M_release_42 ?_
    refine wq_if_le_ok (tgt := 50) h0 kd_M_release_45 (by decide) ?_ ?_
    · exact hb_50
    refine wq_lconst_ok h0 kd_M_release_48 (by decide +kernel) ?_
    exact wq_lreturn_ok h0 hr hlk kd_M_release_49
  have hb_19 : wq_Snd p l e ({ frames := 1, cells := 0, slots := 0, locals := 27 } : Room) s m args below meth c 5 cs D kz_cl A (wq_G0 ad w) (wq_Q cs D kz_cl A (wq_G0 ad w) rt xt below s 0 0) 19 (kt_M_release_19 rt xt) := by
    refine wq_iconst_ok h0 kd_M_release_19 (by decide +kernel) ?_
    refine wq_goto_ok (tgt := 38) h0 kd_M_release_20 (by decide) ?_
    exact hb_38
  have hb_37 : wq_Snd p l e ({ frames := 1, cells := 0, slots := 0, locals := 27 } : Room) s m args below meth c 5 cs D kz_cl A (wq_G0 ad w) (wq_Q cs D kz_cl A (wq_G0 ad w) rt xt below s 0 0) 37 (kt_M_release_37 rt xt) := by
    refine wq_iconst_ok h0 kd_M_release_37 (by decide +kernel) ?_
    exact hb_38
  have hb_23 : wq_Snd p l e ({ frames := 1, cells := 0, slots := 0, locals := 27 } : Room) s m args below meth c 5 cs D kz_cl A (wq_G0 ad w) (wq_Q cs D kz_cl A (wq_G0 ad w) rt xt below s 0 0) 23 (kt_M_release_23 rt xt) := by
    refine wq_aload_n_ok h0 kd_M_release_23 rfl ?_
    refine wq_iload_n_ok h0 kd_M_release_24 rfl ?_
    refine wq_iconst_ok h0 kd_M_release_25 (by decide +kernel) ?_
    refine wq_call_ok hA (wq_runV (ci := 9) ⟨h0.1, h0.2, hml, hown, hts⟩ (kv_M_left hl) ⟨(wq_cB hts kw_G kw_1384 kw_10 kw_1381 ⟨by decide +kernel, by decide +kernel, by decide +kernel⟩ rfl rfl ⟨Nat.le_of_ble_eq_true rfl, Nat.le_of_ble_eq_true rfl⟩), hts _ kw_1383, hts _ kw_s53⟩ rfl rfl hK hZ hN hA kd_M_release_26) (wq_xout_ok hnt hlk) ?_
    refine wq_iload_n_ok h0 kd_M_release_29 rfl ?_
    refine wq_icmp_ge_ok (tgt := 37) h0 kd_M_release_30 (by decide) ?_ ?_
    · exact hb_37
    refine wq_iconst_ok h0 kd_M_release_33 (by decide +kernel) ?_
    refine wq_goto_ok (tgt := 38) h0 kd_M_release_34 (by decide) ?_
    exact hb_38
  have hb_0 : wq_Snd p l e ({ frames := 1, cells := 0, slots := 0, locals := 27 } : Room) s m args below meth c 5 cs D kz_cl A (wq_G0 ad w) (wq_Q cs D kz_cl A (wq_G0 ad w) rt xt below s 0 0) 0 (kt_M_release_0 rt xt) := by
    refine wq_aload_n_ok h0 kd_M_release_0 rfl ?_
    refine wq_iload_n_ok h0 kd_M_release_1 rfl ?_
    refine wq_iconst_ok h0 kd_M_release_2 (by decide +kernel) ?_
    refine wq_bipush_ok h0 kd_M_release_3 (by decide +kernel) ?_
    refine wq_call_ok hA (wq_runS ⟨h0.1, h0.2, hml, hown, hts⟩ (kv_M_within hl) ⟨(wq_cB hts kw_G kw_1209 kw_10 kw_1207 ⟨by decide +kernel, by decide +kernel, by decide +kernel⟩ rfl rfl ⟨Nat.le_of_ble_eq_true rfl, Nat.le_of_ble_eq_true rfl⟩), hts _ kw_1208⟩ hK hZ hN hA kd_M_release_5) (wq_xout_ok hnt hlk) ?_
    refine wq_if_eq_ok (tgt := 19) h0 kd_M_release_8 (by decide) ?_ ?_
    · exact hb_19
    refine wq_iconst_ok h0 kd_M_release_11 (by decide +kernel) ?_
    refine wq_iload_n_ok h0 kd_M_release_12 rfl ?_
    refine wq_call_ok hA (wq_runS ⟨h0.1, h0.2, hml, hown, hts⟩ (kv_M_isField hl) ⟨(wq_cB hts kw_G kw_1303 kw_10 kw_1301 ⟨by decide +kernel, by decide +kernel, by decide +kernel⟩ rfl rfl ⟨Nat.le_of_ble_eq_true rfl, Nat.le_of_ble_eq_true rfl⟩), hts _ kw_1302⟩ hK hZ hN hA kd_M_release_13) (wq_xout_ok hnt hlk) ?_
    refine wq_if_ne_ok (tgt := 23) h0 kd_M_release_16 (by decide) ?_ ?_
    · exact hb_23
    exact hb_19
  exact hb_0 _ _ _ _ _ (wq_sp_t hsp)
set_option maxRecDepth 100000 in
set_option maxHeartbeats 4000000 in
theorem kv_M_export {l : Launch} (hl : l.stackTraces = false) : wq_Vld l kz_cl ky_M_export kw_T ({ frames := 1, cells := 0, slots := 0, locals := 27 }) wq_G0 ks_M_export 0 0 := by
  refine wq_method (cc := kc_M_export) (maxL := 5) (ret := (some .long)) (by decide) kw_1392 (fun _ _ => rfl) wq_sp_sz ?_
  intro p e s m args below meth c cs D ad as w rt xt hF hnt hsp
  obtain ⟨h0, hr, hts, hown, hlk, hnm, hml, hK, hZ, hN, hA⟩ := hF
  have hown : s.vm.findClass "BorderDeskModel" = some m.cls := hown
  obtain ⟨A, hAe⟩ : ∃ A, A = wq_A ad w s.heap.size := ⟨_, rfl⟩
  rw [← hAe] at hZ hA ⊢
  have hb_50 : wq_Snd p l e ({ frames := 1, cells := 0, slots := 0, locals := 27 } : Room) s m args below meth c 5 cs D kz_cl A (wq_G0 ad w) (wq_Q cs D kz_cl A (wq_G0 ad w) rt xt below s 0 0) 50 (kt_M_export_50 rt xt) := by
    refine wq_aload_n_ok h0 kd_M_export_50 rfl ?_
    refine wq_iload_n_ok h0 kd_M_export_51 rfl ?_
    refine wq_iload_n_ok h0 kd_M_export_52 rfl ?_
    refine wq_iconst_ok h0 kd_M_export_53 (by decide +kernel) ?_
    refine wq_call_ok hA (wq_runV (ci := 9) ⟨h0.1, h0.2, hml, hown, hts⟩ (kv_M_take hl) ⟨(wq_cB hts kw_G kw_1388 kw_10 kw_1385 ⟨by decide +kernel, by decide +kernel, by decide +kernel⟩ rfl rfl ⟨Nat.le_of_ble_eq_true rfl, Nat.le_of_ble_eq_true rfl⟩), hts _ kw_1387, hts _ kw_s54⟩ rfl rfl hK hZ hN hA kd_M_export_54) (wq_xout_ok hnt hlk) ?_
    refine wq_lstore_n_ok h0 kd_M_export_57 rfl (Nat.le_of_ble_eq_true rfl) ?_
    refine wq_aload_n_ok h0 kd_M_export_58 rfl ?_
    refine wq_aload_n_ok h0 kd_M_export_59 rfl ?_
    refine wq_get_ok (wq_getOK h0 hts ki_M hown hK (ci := 9) rfl 67 (Nat.le_of_ble_eq_true rfl) kw_1049 rfl) kd_M_export_60 ?_
    refine wq_lload_n_ok h0 kd_M_export_63 rfl ?_
    refine wq_ladd_ok h0 kd_M_export_64 ?_
    refine wq_put_ok (wq_putOK h0 hts ki_M ka_M kb_M kn_M hown hK (ci := 9) rfl 67 (Nat.le_of_ble_eq_true rfl) kw_1049 rfl (Or.inl rfl) wq_okL) kd_M_export_65 ?_
    refine wq_lload_n_ok h0 kd_M_export_68 rfl ?_
    exact wq_lreturn_ok h0 hr hlk kd_M_export_69
  have hb_38 : wq_Snd p l e ({ frames := 1, cells := 0, slots := 0, locals := 27 } : Room) s m args below meth c 5 cs D kz_cl A (wq_G0 ad w) (wq_Q cs D kz_cl A (wq_G0 ad w) rt xt below s 0 0) 38 (kt_M_export_38 rt xt) := by
    refine wq_put_ok (wq_putOK h0 hts ki_M ka_M kb_M kn_M hown hK (ci := 9) rfl 0 (Nat.le_of_ble_eq_true rfl) kw_982 rfl (Or.inl rfl) wq_okI) kd_M_export_38 ?_
    refine wq_aload_n_ok h0 kd_M_export_41 rfl ?_
    refine wq_get_ok (wq_getOK h0 hts ki_M hown hK (ci := 9) rfl 0 (Nat.le_of_ble_eq_true rfl) kw_982 rfl) kd_M_export_42 ?_
    refine wq_if_le_ok (tgt := 50) h0 kd_M_export_45 (by decide) ?_ ?_
    · exact hb_50
    refine wq_lconst_ok h0 kd_M_export_48 (by decide +kernel) ?_
    exact wq_lreturn_ok h0 hr hlk kd_M_export_49
  have hb_19 : wq_Snd p l e ({ frames := 1, cells := 0, slots := 0, locals := 27 } : Room) s m args below meth c 5 cs D kz_cl A (wq_G0 ad w) (wq_Q cs D kz_cl A (wq_G0 ad w) rt xt below s 0 0) 19 (kt_M_export_19 rt xt) := by
    refine wq_iconst_ok h0 kd_M_export_19 (by decide +kernel) ?_
    refine wq_goto_ok (tgt := 38) h0 kd_M_export_20 (by decide) ?_
    exact hb_38
  have hb_37 : wq_Snd p l e ({ frames := 1, cells := 0, slots := 0, locals := 27 } : Room) s m args below meth c 5 cs D kz_cl A (wq_G0 ad w) (wq_Q cs D kz_cl A (wq_G0 ad w) rt xt below s 0 0) 37 (kt_M_export_37 rt xt) := by
    refine wq_iconst_ok h0 kd_M_export_37 (by decide +kernel) ?_
    exact hb_38
  have hb_23 : wq_Snd p l e ({ frames := 1, cells := 0, slots := 0, locals := 27 } : Room) s m args below meth c 5 cs D kz_cl A (wq_G0 ad w) (wq_Q cs D kz_cl A (wq_G0 ad w) rt xt below s 0 0) 23 (kt_M_export_23 rt xt) := by
    refine wq_aload_n_ok h0 kd_M_export_23 rfl ?_
    refine wq_iload_n_ok h0 kd_M_export_24 rfl ?_
    refine wq_iconst_ok h0 kd_M_export_25 (by decide +kernel) ?_
    refine wq_call_ok hA (wq_runV (ci := 9) ⟨h0.1, h0.2, hml, hown, hts⟩ (kv_M_left hl) ⟨(wq_cB hts kw_G kw_1384 kw_10 kw_1381 ⟨by decide +kernel, by decide +kernel, by decide +kernel⟩ rfl rfl ⟨Nat.le_of_ble_eq_true rfl, Nat.le_of_ble_eq_true rfl⟩), hts _ kw_1383, hts _ kw_s53⟩ rfl rfl hK hZ hN hA kd_M_export_26) (wq_xout_ok hnt hlk) ?_
    refine wq_iload_n_ok h0 kd_M_export_29 rfl ?_
    refine wq_icmp_ge_ok (tgt := 37) h0 kd_M_export_30 (by decide) ?_ ?_
    · exact hb_37
    refine wq_iconst_ok h0 kd_M_export_33 (by decide +kernel) ?_
    refine wq_goto_ok (tgt := 38) h0 kd_M_export_34 (by decide) ?_
    exact hb_38
  have hb_0 : wq_Snd p l e ({ frames := 1, cells := 0, slots := 0, locals := 27 } : Room) s m args below meth c 5 cs D kz_cl A (wq_G0 ad w) (wq_Q cs D kz_cl A (wq_G0 ad w) rt xt below s 0 0) 0 (kt_M_export_0 rt xt) := by
    refine wq_aload_n_ok h0 kd_M_export_0 rfl ?_
    refine wq_iload_n_ok h0 kd_M_export_1 rfl ?_
    refine wq_iconst_ok h0 kd_M_export_2 (by decide +kernel) ?_
    refine wq_bipush_ok h0 kd_M_export_3 (by decide +kernel) ?_
    refine wq_call_ok hA (wq_runS ⟨h0.1, h0.2, hml, hown, hts⟩ (kv_M_within hl) ⟨(wq_cB hts kw_G kw_1209 kw_10 kw_1207 ⟨by decide +kernel, by decide +kernel, by decide +kernel⟩ rfl rfl ⟨Nat.le_of_ble_eq_true rfl, Nat.le_of_ble_eq_true rfl⟩), hts _ kw_1208⟩ hK hZ hN hA kd_M_export_5) (wq_xout_ok hnt hlk) ?_
    refine wq_if_eq_ok (tgt := 19) h0 kd_M_export_8 (by decide) ?_ ?_
    · exact hb_19
    refine wq_iconst_ok h0 kd_M_export_11 (by decide +kernel) ?_
    refine wq_iload_n_ok h0 kd_M_export_12 rfl ?_
    refine wq_call_ok hA (wq_runS ⟨h0.1, h0.2, hml, hown, hts⟩ (kv_M_isField hl) ⟨(wq_cB hts kw_G kw_1303 kw_10 kw_1301 ⟨by decide +kernel, by decide +kernel, by decide +kernel⟩ rfl rfl ⟨Nat.le_of_ble_eq_true rfl, Nat.le_of_ble_eq_true rfl⟩), hts _ kw_1302⟩ hK hZ hN hA kd_M_export_13) (wq_xout_ok hnt hlk) ?_
    refine wq_if_ne_ok (tgt := 23) h0 kd_M_export_16 (by decide) ?_ ?_
    · exact hb_23
    exact hb_19
  exact hb_0 _ _ _ _ _ (wq_sp_t hsp)
set_option maxRecDepth 100000 in
set_option maxHeartbeats 4000000 in
theorem kv_M_work {l : Launch} (hl : l.stackTraces = false) : wq_Vld l kz_cl ky_M_work kw_T ({ frames := 1, cells := 0, slots := 0, locals := 27 }) wq_G0 ks_M_work 0 0 := by
  refine wq_method (cc := kc_M_work) (maxL := 8) (ret := (some .int)) (by decide) kw_1396 (fun _ _ => rfl) wq_sp_sz ?_
  intro p e s m args below meth c cs D ad as w rt xt hF hnt hsp
  obtain ⟨h0, hr, hts, hown, hlk, hnm, hml, hK, hZ, hN, hA⟩ := hF
  have hown : s.vm.findClass "BorderDeskModel" = some m.cls := hown
  obtain ⟨A, hAe⟩ : ∃ A, A = wq_A ad w s.heap.size := ⟨_, rfl⟩
  rw [← hAe] at hZ hA ⊢
  have hb_101 : wq_Snd p l e ({ frames := 1, cells := 0, slots := 0, locals := 27 } : Room) s m args below meth c 8 cs D kz_cl A (wq_G0 ad w) (wq_Q cs D kz_cl A (wq_G0 ad w) rt xt below s 0 0) 101 (kt_M_work_101 rt xt) := by
    refine wq_aload_n_ok h0 kd_M_work_101 rfl ?_
    refine wq_iload_n_ok h0 kd_M_work_102 rfl ?_
    refine wq_iload_n_ok h0 kd_M_work_103 rfl ?_
    refine wq_iconst_ok h0 kd_M_work_104 (by decide +kernel) ?_
    refine wq_call_ok hA (wq_runV (ci := 9) ⟨h0.1, h0.2, hml, hown, hts⟩ (kv_M_take hl) ⟨(wq_cB hts kw_G kw_1388 kw_10 kw_1385 ⟨by decide +kernel, by decide +kernel, by decide +kernel⟩ rfl rfl ⟨Nat.le_of_ble_eq_true rfl, Nat.le_of_ble_eq_true rfl⟩), hts _ kw_1387, hts _ kw_s54⟩ rfl rfl hK hZ hN hA kd_M_work_105) (wq_xout_ok hnt hlk) ?_
    refine wq_lstore_ok h0 kd_M_work_108 (Nat.le_of_ble_eq_true rfl) ?_
    refine wq_aload_n_ok h0 kd_M_work_110 rfl ?_
    refine wq_get_ok (wq_getOK h0 hts ki_M hown hK (ci := 9) rfl 64 (Nat.le_of_ble_eq_true rfl) kw_1046 rfl) kd_M_work_111 ?_
    refine wq_iload_n_ok h0 kd_M_work_114 rfl ?_
    refine wq_aload_n_ok h0 kd_M_work_115 rfl ?_
    refine wq_get_ok (wq_getOK h0 hts ki_M hown hK (ci := 9) rfl 64 (Nat.le_of_ble_eq_true rfl) kw_1046 rfl) kd_M_work_116 ?_
    refine wq_iload_n_ok h0 kd_M_work_119 rfl ?_
    refine wq_iald_ok h0 hK kd_M_work_120 ?_
    refine wq_iload_n_ok h0 kd_M_work_121 rfl ?_
    refine wq_iadd_ok h0 kd_M_work_122 ?_
    refine wq_iast_ok h0 hK kd_M_work_123 ?_
    refine wq_aload_n_ok h0 kd_M_work_124 rfl ?_
    refine wq_get_ok (wq_getOK h0 hts ki_M hown hK (ci := 9) rfl 65 (Nat.le_of_ble_eq_true rfl) kw_1047 rfl) kd_M_work_125 ?_
    refine wq_iload_n_ok h0 kd_M_work_128 rfl ?_
    refine wq_aload_n_ok h0 kd_M_work_129 rfl ?_
    refine wq_get_ok (wq_getOK h0 hts ki_M hown hK (ci := 9) rfl 65 (Nat.le_of_ble_eq_true rfl) kw_1047 rfl) kd_M_work_130 ?_
    refine wq_iload_n_ok h0 kd_M_work_133 rfl ?_
    refine wq_iald_ok h0 hK kd_M_work_134 ?_
    refine wq_iload_n_ok h0 kd_M_work_135 rfl ?_
    refine wq_iadd_ok h0 kd_M_work_136 ?_
    refine wq_iload_ok h0 kd_M_work_137 ?_
    refine wq_isub_ok h0 kd_M_work_139 ?_
    refine wq_iast_ok h0 hK kd_M_work_140 ?_
    refine wq_aload_n_ok h0 kd_M_work_141 rfl ?_
    refine wq_iload_n_ok h0 kd_M_work_142 rfl ?_
    refine wq_iload_ok h0 kd_M_work_143 ?_
    refine wq_lload_ok h0 kd_M_work_145 ?_
    refine wq_iconst_ok h0 kd_M_work_147 (by decide +kernel) ?_
    refine wq_iconst_ok h0 kd_M_work_148 (by decide +kernel) ?_
    refine wq_call_ok hA (wq_runV (ci := 9) ⟨h0.1, h0.2, hml, hown, hts⟩ (kv_M_addLot hl) ⟨(wq_cB hts kw_G kw_1368 kw_10 kw_1365 ⟨by decide +kernel, by decide +kernel, by decide +kernel⟩ rfl rfl ⟨Nat.le_of_ble_eq_true rfl, Nat.le_of_ble_eq_true rfl⟩), hts _ kw_1367, hts _ kw_s51⟩ rfl rfl hK hZ hN hA kd_M_work_149) (wq_xout_ok hnt hlk) ?_
    exact wq_ireturn_ok h0 hr hlk kd_M_work_152
  have hb_89 : wq_Snd p l e ({ frames := 1, cells := 0, slots := 0, locals := 27 } : Room) s m args below meth c 8 cs D kz_cl A (wq_G0 ad w) (wq_Q cs D kz_cl A (wq_G0 ad w) rt xt below s 0 0) 89 (kt_M_work_89 rt xt) := by
    refine wq_put_ok (wq_putOK h0 hts ki_M ka_M kb_M kn_M hown hK (ci := 9) rfl 0 (Nat.le_of_ble_eq_true rfl) kw_982 rfl (Or.inl rfl) wq_okI) kd_M_work_89 ?_
    refine wq_aload_n_ok h0 kd_M_work_92 rfl ?_
    refine wq_get_ok (wq_getOK h0 hts ki_M hown hK (ci := 9) rfl 0 (Nat.le_of_ble_eq_true rfl) kw_982 rfl) kd_M_work_93 ?_
    refine wq_if_le_ok (tgt := 101) h0 kd_M_work_96 (by decide) ?_ ?_
    · exact hb_101
    refine wq_iconst_ok h0 kd_M_work_99 (by decide +kernel) ?_
    exact wq_ireturn_ok h0 hr hlk kd_M_work_100
  have hb_88 : wq_Snd p l e ({ frames := 1, cells := 0, slots := 0, locals := 27 } : Room) s m args below meth c 8 cs D kz_cl A (wq_G0 ad w) (wq_Q cs D kz_cl A (wq_G0 ad w) rt xt below s 0 0) 88 (kt_M_work_88 rt xt) := by
    refine wq_iconst_ok h0 kd_M_work_88 (by decide +kernel) ?_
    exact hb_89
  have hb_75 : wq_Snd p l e ({ frames := 1, cells := 0, slots := 0, locals := 27 } : Room) s m args below meth c 8 cs D kz_cl A (wq_G0 ad w) (wq_Q cs D kz_cl A (wq_G0 ad w) rt xt below s 0 0) 75 (kt_M_work_75 rt xt) := by
    refine wq_aload_n_ok h0 kd_M_work_75 rfl ?_
    refine wq_get_ok (wq_getOK h0 hts ki_M hown hK (ci := 9) rfl 56 (Nat.le_of_ble_eq_true rfl) kw_1038 rfl) kd_M_work_76 ?_
    refine wq_bipush_ok h0 kd_M_work_79 (by decide +kernel) ?_
    refine wq_icmp_ne_ok (tgt := 88) h0 kd_M_work_81 (by decide) ?_ ?_
    · exact hb_88
    refine wq_iconst_ok h0 kd_M_work_84 (by decide +kernel) ?_
    refine wq_goto_ok (tgt := 89) h0 kd_M_work_85 (by decide) ?_
    exact hb_89
  have hb_61 : wq_Snd p l e ({ frames := 1, cells := 0, slots := 0, locals := 27 } : Room) s m args below meth c 8 cs D kz_cl A (wq_G0 ad w) (wq_Q cs D kz_cl A (wq_G0 ad w) rt xt below s 0 0) 61 (kt_M_work_61 rt xt) := by
    refine wq_aload_n_ok h0 kd_M_work_61 rfl ?_
    refine wq_iload_n_ok h0 kd_M_work_62 rfl ?_
    refine wq_iconst_ok h0 kd_M_work_63 (by decide +kernel) ?_
    refine wq_call_ok hA (wq_runV (ci := 9) ⟨h0.1, h0.2, hml, hown, hts⟩ (kv_M_left hl) ⟨(wq_cB hts kw_G kw_1384 kw_10 kw_1381 ⟨by decide +kernel, by decide +kernel, by decide +kernel⟩ rfl rfl ⟨Nat.le_of_ble_eq_true rfl, Nat.le_of_ble_eq_true rfl⟩), hts _ kw_1383, hts _ kw_s53⟩ rfl rfl hK hZ hN hA kd_M_work_64) (wq_xout_ok hnt hlk) ?_
    refine wq_iload_n_ok h0 kd_M_work_67 rfl ?_
    refine wq_icmp_ge_ok (tgt := 75) h0 kd_M_work_68 (by decide) ?_ ?_
    · exact hb_75
    refine wq_iconst_ok h0 kd_M_work_71 (by decide +kernel) ?_
    refine wq_goto_ok (tgt := 89) h0 kd_M_work_72 (by decide) ?_
    exact hb_89
  have hb_49 : wq_Snd p l e ({ frames := 1, cells := 0, slots := 0, locals := 27 } : Room) s m args below meth c 8 cs D kz_cl A (wq_G0 ad w) (wq_Q cs D kz_cl A (wq_G0 ad w) rt xt below s 0 0) 49 (kt_M_work_49 rt xt) := by
    refine wq_istore_ok h0 kd_M_work_49 (Nat.le_of_ble_eq_true rfl) ?_
    refine wq_aload_n_ok h0 kd_M_work_51 rfl ?_
    refine wq_iload_ok h0 kd_M_work_52 ?_
    refine wq_if_ne_ok (tgt := 61) h0 kd_M_work_54 (by decide) ?_ ?_
    · exact hb_61
    refine wq_iconst_ok h0 kd_M_work_57 (by decide +kernel) ?_
    refine wq_goto_ok (tgt := 89) h0 kd_M_work_58 (by decide) ?_
    exact hb_89
  have hb_48 : wq_Snd p l e ({ frames := 1, cells := 0, slots := 0, locals := 27 } : Room) s m args below meth c 8 cs D kz_cl A (wq_G0 ad w) (wq_Q cs D kz_cl A (wq_G0 ad w) rt xt below s 0 0) 48 (kt_M_work_48 rt xt) := by
    refine wq_iconst_ok h0 kd_M_work_48 (by decide +kernel) ?_
    exact hb_49
  have hb_0 : wq_Snd p l e ({ frames := 1, cells := 0, slots := 0, locals := 27 } : Room) s m args below meth c 8 cs D kz_cl A (wq_G0 ad w) (wq_Q cs D kz_cl A (wq_G0 ad w) rt xt below s 0 0) 0 (kt_M_work_0 rt xt) := by
    refine wq_iload_n_ok h0 kd_M_work_0 rfl ?_
    refine wq_iconst_ok h0 kd_M_work_1 (by decide +kernel) ?_
    refine wq_bipush_ok h0 kd_M_work_2 (by decide +kernel) ?_
    refine wq_call_ok hA (wq_runS ⟨h0.1, h0.2, hml, hown, hts⟩ (kv_M_within hl) ⟨(wq_cB hts kw_G kw_1209 kw_10 kw_1207 ⟨by decide +kernel, by decide +kernel, by decide +kernel⟩ rfl rfl ⟨Nat.le_of_ble_eq_true rfl, Nat.le_of_ble_eq_true rfl⟩), hts _ kw_1208⟩ hK hZ hN hA kd_M_work_4) (wq_xout_ok hnt hlk) ?_
    refine wq_if_eq_ok (tgt := 48) h0 kd_M_work_7 (by decide) ?_ ?_
    · exact hb_48
    refine wq_iload_n_ok h0 kd_M_work_10 rfl ?_
    refine wq_iconst_ok h0 kd_M_work_11 (by decide +kernel) ?_
    refine wq_bipush_ok h0 kd_M_work_12 (by decide +kernel) ?_
    refine wq_call_ok hA (wq_runS ⟨h0.1, h0.2, hml, hown, hts⟩ (kv_M_within hl) ⟨(wq_cB hts kw_G kw_1209 kw_10 kw_1207 ⟨by decide +kernel, by decide +kernel, by decide +kernel⟩ rfl rfl ⟨Nat.le_of_ble_eq_true rfl, Nat.le_of_ble_eq_true rfl⟩), hts _ kw_1208⟩ hK hZ hN hA kd_M_work_14) (wq_xout_ok hnt hlk) ?_
    refine wq_if_eq_ok (tgt := 48) h0 kd_M_work_17 (by decide) ?_ ?_
    · exact hb_48
    refine wq_iload_n_ok h0 kd_M_work_20 rfl ?_
    refine wq_iload_n_ok h0 kd_M_work_21 rfl ?_
    refine wq_icmp_eq_ok (tgt := 48) h0 kd_M_work_22 (by decide) ?_ ?_
    · exact hb_48
    refine wq_iload_ok h0 kd_M_work_25 ?_
    refine wq_iconst_ok h0 kd_M_work_27 (by decide +kernel) ?_
    refine wq_icmp_lt_ok (tgt := 48) h0 kd_M_work_28 (by decide) ?_ ?_
    · exact hb_48
    refine wq_iload_ok h0 kd_M_work_31 ?_
    refine wq_iload_n_ok h0 kd_M_work_33 rfl ?_
    refine wq_icmp_gt_ok (tgt := 48) h0 kd_M_work_34 (by decide) ?_ ?_
    · exact hb_48
    refine wq_iload_n_ok h0 kd_M_work_37 rfl ?_
    refine wq_sipush_ok h0 kd_M_work_38 (by decide +kernel) ?_
    refine wq_icmp_gt_ok (tgt := 48) h0 kd_M_work_41 (by decide) ?_ ?_
    · exact hb_48
    refine wq_iconst_ok h0 kd_M_work_44 (by decide +kernel) ?_
    refine wq_goto_ok (tgt := 49) h0 kd_M_work_45 (by decide) ?_
    exact hb_49
  exact hb_0 _ _ _ _ _ (wq_sp_t hsp)
set_option maxRecDepth 100000 in
set_option maxHeartbeats 4000000 in
theorem kv_M_lot {l : Launch} (hl : l.stackTraces = false) : wq_Vld l kz_cl ky_M_lot kw_T ({ frames := 1, cells := 0, slots := 0, locals := 22 }) wq_G0 ks_M_lot 0 0 := by
  refine wq_method (cc := kc_M_lot) (maxL := 3) (ret := (some .long)) (by decide) kw_1400 (fun _ _ => rfl) wq_sp_sz ?_
  intro p e s m args below meth c cs D ad as w rt xt hF hnt hsp
  obtain ⟨h0, hr, hts, hown, hlk, hnm, hml, hK, hZ, hN, hA⟩ := hF
  have hown : s.vm.findClass "BorderDeskModel" = some m.cls := hown
  obtain ⟨A, hAe⟩ : ∃ A, A = wq_A ad w s.heap.size := ⟨_, rfl⟩
  rw [← hAe] at hZ hA ⊢
  have hb_72 : wq_Snd p l e ({ frames := 1, cells := 0, slots := 0, locals := 22 } : Room) s m args below meth c 3 cs D kz_cl A (wq_G0 ad w) (wq_Q cs D kz_cl A (wq_G0 ad w) rt xt below s 0 0) 72 (kt_M_lot_72 rt xt) := by
    refine wq_aload_n_ok h0 kd_M_lot_72 rfl ?_
    refine wq_get_ok (wq_getOK h0 hts ki_M hown hK (ci := 9) rfl 57 (Nat.le_of_ble_eq_true rfl) kw_1039 rfl) kd_M_lot_73 ?_
    refine wq_iload_n_ok h0 kd_M_lot_76 rfl ?_
    refine wq_iald_ok h0 hK kd_M_lot_77 ?_
    refine wq_i2l_ok h0 kd_M_lot_78 ?_
    exact wq_lreturn_ok h0 hr hlk kd_M_lot_79
  have hb_80 : wq_Snd p l e ({ frames := 1, cells := 0, slots := 0, locals := 22 } : Room) s m args below meth c 3 cs D kz_cl A (wq_G0 ad w) (wq_Q cs D kz_cl A (wq_G0 ad w) rt xt below s 0 0) 80 (kt_M_lot_80 rt xt) := by
    refine wq_aload_n_ok h0 kd_M_lot_80 rfl ?_
    refine wq_get_ok (wq_getOK h0 hts ki_M hown hK (ci := 9) rfl 58 (Nat.le_of_ble_eq_true rfl) kw_1040 rfl) kd_M_lot_81 ?_
    refine wq_iload_n_ok h0 kd_M_lot_84 rfl ?_
    refine wq_iald_ok h0 hK kd_M_lot_85 ?_
    refine wq_i2l_ok h0 kd_M_lot_86 ?_
    exact wq_lreturn_ok h0 hr hlk kd_M_lot_87
  have hb_88 : wq_Snd p l e ({ frames := 1, cells := 0, slots := 0, locals := 22 } : Room) s m args below meth c 3 cs D kz_cl A (wq_G0 ad w) (wq_Q cs D kz_cl A (wq_G0 ad w) rt xt below s 0 0) 88 (kt_M_lot_88 rt xt) := by
    refine wq_aload_n_ok h0 kd_M_lot_88 rfl ?_
    refine wq_get_ok (wq_getOK h0 hts ki_M hown hK (ci := 9) rfl 59 (Nat.le_of_ble_eq_true rfl) kw_1041 rfl) kd_M_lot_89 ?_
    refine wq_iload_n_ok h0 kd_M_lot_92 rfl ?_
    refine wq_iald_ok h0 hK kd_M_lot_93 ?_
    refine wq_i2l_ok h0 kd_M_lot_94 ?_
    exact wq_lreturn_ok h0 hr hlk kd_M_lot_95
  have hb_96 : wq_Snd p l e ({ frames := 1, cells := 0, slots := 0, locals := 22 } : Room) s m args below meth c 3 cs D kz_cl A (wq_G0 ad w) (wq_Q cs D kz_cl A (wq_G0 ad w) rt xt below s 0 0) 96 (kt_M_lot_96 rt xt) := by
    refine wq_aload_n_ok h0 kd_M_lot_96 rfl ?_
    refine wq_get_ok (wq_getOK h0 hts ki_M hown hK (ci := 9) rfl 60 (Nat.le_of_ble_eq_true rfl) kw_1042 rfl) kd_M_lot_97 ?_
    refine wq_iload_n_ok h0 kd_M_lot_100 rfl ?_
    refine wq_lald_ok h0 hK kd_M_lot_101 ?_
    exact wq_lreturn_ok h0 hr hlk kd_M_lot_102
  have hb_117 : wq_Snd p l e ({ frames := 1, cells := 0, slots := 0, locals := 22 } : Room) s m args below meth c 3 cs D kz_cl A (wq_G0 ad w) (wq_Q cs D kz_cl A (wq_G0 ad w) rt xt below s 0 0) 117 (kt_M_lot_117 rt xt) := by
    exact wq_lreturn_ok h0 hr hlk kd_M_lot_117
  have hb_116 : wq_Snd p l e ({ frames := 1, cells := 0, slots := 0, locals := 22 } : Room) s m args below meth c 3 cs D kz_cl A (wq_G0 ad w) (wq_Q cs D kz_cl A (wq_G0 ad w) rt xt below s 0 0) 116 (kt_M_lot_116 rt xt) := by
    refine wq_lconst_ok h0 kd_M_lot_116 (by decide +kernel) ?_
    exact hb_117
  have hb_103 : wq_Snd p l e ({ frames := 1, cells := 0, slots := 0, locals := 22 } : Room) s m args below meth c 3 cs D kz_cl A (wq_G0 ad w) (wq_Q cs D kz_cl A (wq_G0 ad w) rt xt below s 0 0) 103 (kt_M_lot_103 rt xt) := by
    refine wq_aload_n_ok h0 kd_M_lot_103 rfl ?_
    refine wq_get_ok (wq_getOK h0 hts ki_M hown hK (ci := 9) rfl 61 (Nat.le_of_ble_eq_true rfl) kw_1043 rfl) kd_M_lot_104 ?_
    refine wq_iload_n_ok h0 kd_M_lot_107 rfl ?_
    refine wq_zald_ok h0 hK kd_M_lot_108 ?_
    refine wq_if_eq_ok (tgt := 116) h0 kd_M_lot_109 (by decide) ?_ ?_
    · exact hb_116
    refine wq_lconst_ok h0 kd_M_lot_112 (by decide +kernel) ?_
    refine wq_goto_ok (tgt := 117) h0 kd_M_lot_113 (by decide) ?_
    exact hb_117
  have hb_39 : wq_Snd p l e ({ frames := 1, cells := 0, slots := 0, locals := 22 } : Room) s m args below meth c 3 cs D kz_cl A (wq_G0 ad w) (wq_Q cs D kz_cl A (wq_G0 ad w) rt xt below s 0 0) 39 (kt_M_lot_39 rt xt) := by
    refine wq_iload_n_ok h0 kd_M_lot_39 rfl ?_
    refine wq_sw_ok ?_ ?_
    · exact List.forall_mem_cons.mpr ⟨⟨72, (by exact hb_72), fun H locs n1 n2 ls rest hw => lv_tableIn (tgt := 72) (off := 32) h0.1 h0.2 kd_M_lot_40 (show ¬ (nI 0).toInt < 0 by decide +kernel) (show ¬ 3 < (nI 0).toInt by decide +kernel) (show (#[32, 40, 48, 56] : Array Int)[((nI 0).toInt - 0).toNat]? = some 32 by decide +kernel) (by decide) hw⟩, List.forall_mem_cons.mpr ⟨⟨80, (by exact hb_80), fun H locs n1 n2 ls rest hw => lv_tableIn (tgt := 80) (off := 40) h0.1 h0.2 kd_M_lot_40 (show ¬ (nI 1).toInt < 0 by decide +kernel) (show ¬ 3 < (nI 1).toInt by decide +kernel) (show (#[32, 40, 48, 56] : Array Int)[((nI 1).toInt - 0).toNat]? = some 40 by decide +kernel) (by decide) hw⟩, List.forall_mem_cons.mpr ⟨⟨88, (by exact hb_88), fun H locs n1 n2 ls rest hw => lv_tableIn (tgt := 88) (off := 48) h0.1 h0.2 kd_M_lot_40 (show ¬ (nI 2).toInt < 0 by decide +kernel) (show ¬ 3 < (nI 2).toInt by decide +kernel) (show (#[32, 40, 48, 56] : Array Int)[((nI 2).toInt - 0).toNat]? = some 48 by decide +kernel) (by decide) hw⟩, List.forall_mem_cons.mpr ⟨⟨96, (by exact hb_96), fun H locs n1 n2 ls rest hw => lv_tableIn (tgt := 96) (off := 56) h0.1 h0.2 kd_M_lot_40 (show ¬ (nI 3).toInt < 0 by decide +kernel) (show ¬ 3 < (nI 3).toInt by decide +kernel) (show (#[32, 40, 48, 56] : Array Int)[((nI 3).toInt - 0).toNat]? = some 56 by decide +kernel) (by decide) hw⟩, fun _ h => absurd h List.not_mem_nil⟩⟩⟩⟩
    · exact ⟨103, (by exact hb_103), fun H locs n1 n2 ls rest x hq hw => lv_tableOut (tgt := 103) h0.1 h0.2 kd_M_lot_40 (wq_tabO 0 3 (by decide) (fun k h1 h2 => by rcases (show k = 0 ∨ k = 1 ∨ k = 2 ∨ k = 3 by omega) with rfl | rfl | rfl | rfl <;> first | exact hq _ List.mem_cons_self | exact hq _ (List.mem_cons_of_mem _ List.mem_cons_self) | exact hq _ (List.mem_cons_of_mem _ (List.mem_cons_of_mem _ List.mem_cons_self)) | exact hq _ (List.mem_cons_of_mem _ (List.mem_cons_of_mem _ (List.mem_cons_of_mem _ List.mem_cons_self))))) (by decide) hw⟩
  have hb_27 : wq_Snd p l e ({ frames := 1, cells := 0, slots := 0, locals := 22 } : Room) s m args below meth c 3 cs D kz_cl A (wq_G0 ad w) (wq_Q cs D kz_cl A (wq_G0 ad w) rt xt below s 0 0) 27 (kt_M_lot_27 rt xt) := by
    refine wq_put_ok (wq_putOK h0 hts ki_M ka_M kb_M kn_M hown hK (ci := 9) rfl 0 (Nat.le_of_ble_eq_true rfl) kw_982 rfl (Or.inl rfl) wq_okI) kd_M_lot_27 ?_
    refine wq_aload_n_ok h0 kd_M_lot_30 rfl ?_
    refine wq_get_ok (wq_getOK h0 hts ki_M hown hK (ci := 9) rfl 0 (Nat.le_of_ble_eq_true rfl) kw_982 rfl) kd_M_lot_31 ?_
    refine wq_if_le_ok (tgt := 39) h0 kd_M_lot_34 (by decide) ?_ ?_
    · exact hb_39
    refine wq_lconst_ok h0 kd_M_lot_37 (by decide +kernel) ?_
    exact wq_lreturn_ok h0 hr hlk kd_M_lot_38
  have hb_26 : wq_Snd p l e ({ frames := 1, cells := 0, slots := 0, locals := 22 } : Room) s m args below meth c 3 cs D kz_cl A (wq_G0 ad w) (wq_Q cs D kz_cl A (wq_G0 ad w) rt xt below s 0 0) 26 (kt_M_lot_26 rt xt) := by
    refine wq_iconst_ok h0 kd_M_lot_26 (by decide +kernel) ?_
    exact hb_27
  have hb_0 : wq_Snd p l e ({ frames := 1, cells := 0, slots := 0, locals := 22 } : Room) s m args below meth c 3 cs D kz_cl A (wq_G0 ad w) (wq_Q cs D kz_cl A (wq_G0 ad w) rt xt below s 0 0) 0 (kt_M_lot_0 rt xt) := by
    refine wq_aload_n_ok h0 kd_M_lot_0 rfl ?_
    refine wq_iload_n_ok h0 kd_M_lot_1 rfl ?_
    refine wq_if_lt_ok (tgt := 26) h0 kd_M_lot_2 (by decide) ?_ ?_
    · exact hb_26
    refine wq_iload_n_ok h0 kd_M_lot_5 rfl ?_
    refine wq_aload_n_ok h0 kd_M_lot_6 rfl ?_
    refine wq_get_ok (wq_getOK h0 hts ki_M hown hK (ci := 9) rfl 56 (Nat.le_of_ble_eq_true rfl) kw_1038 rfl) kd_M_lot_7 ?_
    refine wq_icmp_ge_ok (tgt := 26) h0 kd_M_lot_10 (by decide) ?_ ?_
    · exact hb_26
    refine wq_iload_n_ok h0 kd_M_lot_13 rfl ?_
    refine wq_iconst_ok h0 kd_M_lot_14 (by decide +kernel) ?_
    refine wq_iconst_ok h0 kd_M_lot_15 (by decide +kernel) ?_
    refine wq_call_ok hA (wq_runS ⟨h0.1, h0.2, hml, hown, hts⟩ (kv_M_within hl) ⟨(wq_cB hts kw_G kw_1209 kw_10 kw_1207 ⟨by decide +kernel, by decide +kernel, by decide +kernel⟩ rfl rfl ⟨Nat.le_of_ble_eq_true rfl, Nat.le_of_ble_eq_true rfl⟩), hts _ kw_1208⟩ hK hZ hN hA kd_M_lot_16) (wq_xout_ok hnt hlk) ?_
    refine wq_if_eq_ok (tgt := 26) h0 kd_M_lot_19 (by decide) ?_ ?_
    · exact hb_26
    refine wq_iconst_ok h0 kd_M_lot_22 (by decide +kernel) ?_
    refine wq_goto_ok (tgt := 27) h0 kd_M_lot_23 (by decide) ?_
    exact hb_27
  exact hb_0 _ _ _ _ _ (wq_sp_t hsp)
set_option maxRecDepth 100000 in
set_option maxHeartbeats 4000000 in
theorem kv_M_came {l : Launch} (hl : l.stackTraces = false) : wq_Vld l kz_cl ky_M_came kw_T ({ frames := 0, cells := 0, slots := 0, locals := 0 }) wq_G0 ks_M_came 0 0 := by
  refine wq_method (cc := kc_M_came) (maxL := 5) (ret := (some .int)) (by decide) kw_1408 (fun _ _ => rfl) wq_sp_sz ?_
  intro p e s m args below meth c cs D ad as w rt xt hF hnt hsp
  obtain ⟨h0, hr, hts, hown, hlk, hnm, hml, hK, hZ, hN, hA⟩ := hF
  have hown : s.vm.findClass "BorderDeskModel" = some m.cls := hown
  obtain ⟨A, hAe⟩ : ∃ A, A = wq_A ad w s.heap.size := ⟨_, rfl⟩
  rw [← hAe] at hZ hA ⊢
  have hall : ∀ K : Nat → wq_T, (∀ pc, pc ∈ [5] → wq_Snd p l e ({ frames := 0, cells := 0, slots := 0, locals := 0 } : Room) s m args below meth c 5 cs D kz_cl A (wq_G0 ad w) (wq_Q cs D kz_cl A (wq_G0 ad w) rt xt below s 0 0) pc (K pc)) → (∀ pc, pc ∈ [5] → wq_Snd p l e ({ frames := 0, cells := 0, slots := 0, locals := 0 } : Room) s m args below meth c 5 cs D kz_cl A (wq_G0 ad w) (wq_Q cs D kz_cl A (wq_G0 ad w) rt xt below s 0 0) pc (cond (Nat.beq pc 5) (kh_M_came_5 rt xt K) (fun _ _ _ _ _ => False))) ∧ wq_Snd p l e ({ frames := 0, cells := 0, slots := 0, locals := 0 } : Room) s m args below meth c 5 cs D kz_cl A (wq_G0 ad w) (wq_Q cs D kz_cl A (wq_G0 ad w) rt xt below s 0 0) 0 (kt_M_came_0 rt xt K) := by
    intro K hKc
    have hb_66 : wq_Snd p l e ({ frames := 0, cells := 0, slots := 0, locals := 0 } : Room) s m args below meth c 5 cs D kz_cl A (wq_G0 ad w) (wq_Q cs D kz_cl A (wq_G0 ad w) rt xt below s 0 0) 66 (kt_M_came_66 rt xt K) := by
      refine wq_iload_n_ok h0 kd_M_came_66 rfl ?_
      exact wq_ireturn_ok h0 hr hlk kd_M_came_67
    have hb_59 : wq_Snd p l e ({ frames := 0, cells := 0, slots := 0, locals := 0 } : Room) s m args below meth c 5 cs D kz_cl A (wq_G0 ad w) (wq_Q cs D kz_cl A (wq_G0 ad w) rt xt below s 0 0) 59 (kt_M_came_59 rt xt K) := by
      refine wq_istore_n_ok h0 kd_M_came_59 rfl (Nat.le_of_ble_eq_true rfl) ?_
      refine wq_iinc_ok h0 kd_M_came_60 (by decide +kernel) (Nat.le_of_ble_eq_true rfl) ?_
      refine wq_goto_ok (tgt := 5) h0 kd_M_came_63 (by decide) ?_
      exact wq_can_ok (hKc 5 (by decide))
    have hb_58 : wq_Snd p l e ({ frames := 0, cells := 0, slots := 0, locals := 0 } : Room) s m args below meth c 5 cs D kz_cl A (wq_G0 ad w) (wq_Q cs D kz_cl A (wq_G0 ad w) rt xt below s 0 0) 58 (kt_M_came_58 rt xt K) := by
      refine wq_iload_n_ok h0 kd_M_came_58 rfl ?_
      exact hb_59
    have hb_5 : wq_Snd p l e ({ frames := 0, cells := 0, slots := 0, locals := 0 } : Room) s m args below meth c 5 cs D kz_cl A (wq_G0 ad w) (wq_Q cs D kz_cl A (wq_G0 ad w) rt xt below s 0 0) 5 (kh_M_came_5 rt xt K) := by
      refine wq_iload_ok h0 kd_M_came_5 ?_
      refine wq_aload_n_ok h0 kd_M_came_7 rfl ?_
      refine wq_get_ok (wq_getOK h0 hts ki_M hown hK (ci := 9) rfl 56 (Nat.le_of_ble_eq_true rfl) kw_1038 rfl) kd_M_came_8 ?_
      refine wq_icmp_ge_ok (tgt := 66) h0 kd_M_came_11 (by decide) ?_ ?_
      · exact hb_66
      refine wq_aload_n_ok h0 kd_M_came_14 rfl ?_
      refine wq_get_ok (wq_getOK h0 hts ki_M hown hK (ci := 9) rfl 57 (Nat.le_of_ble_eq_true rfl) kw_1039 rfl) kd_M_came_15 ?_
      refine wq_iload_ok h0 kd_M_came_18 ?_
      refine wq_iald_ok h0 hK kd_M_came_20 ?_
      refine wq_iload_n_ok h0 kd_M_came_21 rfl ?_
      refine wq_icmp_ne_ok (tgt := 58) h0 kd_M_came_22 (by decide) ?_ ?_
      · exact hb_58
      refine wq_aload_n_ok h0 kd_M_came_25 rfl ?_
      refine wq_get_ok (wq_getOK h0 hts ki_M hown hK (ci := 9) rfl 61 (Nat.le_of_ble_eq_true rfl) kw_1043 rfl) kd_M_came_26 ?_
      refine wq_iload_ok h0 kd_M_came_29 ?_
      refine wq_zald_ok h0 hK kd_M_came_31 ?_
      refine wq_if_eq_ok (tgt := 58) h0 kd_M_came_32 (by decide) ?_ ?_
      · exact hb_58
      refine wq_aload_n_ok h0 kd_M_came_35 rfl ?_
      refine wq_get_ok (wq_getOK h0 hts ki_M hown hK (ci := 9) rfl 62 (Nat.le_of_ble_eq_true rfl) kw_1044 rfl) kd_M_came_36 ?_
      refine wq_iload_ok h0 kd_M_came_39 ?_
      refine wq_zald_ok h0 hK kd_M_came_41 ?_
      refine wq_iload_n_ok h0 kd_M_came_42 rfl ?_
      refine wq_icmp_ne_ok (tgt := 58) h0 kd_M_came_43 (by decide) ?_ ?_
      · exact hb_58
      refine wq_iload_n_ok h0 kd_M_came_46 rfl ?_
      refine wq_aload_n_ok h0 kd_M_came_47 rfl ?_
      refine wq_get_ok (wq_getOK h0 hts ki_M hown hK (ci := 9) rfl 58 (Nat.le_of_ble_eq_true rfl) kw_1040 rfl) kd_M_came_48 ?_
      refine wq_iload_ok h0 kd_M_came_51 ?_
      refine wq_iald_ok h0 hK kd_M_came_53 ?_
      refine wq_iadd_ok h0 kd_M_came_54 ?_
      refine wq_goto_ok (tgt := 59) h0 kd_M_came_55 (by decide) ?_
      exact hb_59
    have hb_0 : wq_Snd p l e ({ frames := 0, cells := 0, slots := 0, locals := 0 } : Room) s m args below meth c 5 cs D kz_cl A (wq_G0 ad w) (wq_Q cs D kz_cl A (wq_G0 ad w) rt xt below s 0 0) 0 (kt_M_came_0 rt xt K) := by
      refine wq_iconst_ok h0 kd_M_came_0 (by decide +kernel) ?_
      refine wq_istore_n_ok h0 kd_M_came_1 rfl (Nat.le_of_ble_eq_true rfl) ?_
      refine wq_iconst_ok h0 kd_M_came_2 (by decide +kernel) ?_
      refine wq_istore_ok h0 kd_M_came_3 (Nat.le_of_ble_eq_true rfl) ?_
      exact wq_can_ok (hKc 5 (by decide))
    refine ⟨?_, hb_0⟩
    exact List.forall_mem_cons.mpr ⟨hb_5, fun _ h => absurd h List.not_mem_nil⟩
  have hun : ∀ (n pc : Nat), pc ∈ [5] → wq_Snd p l e ({ frames := 0, cells := 0, slots := 0, locals := 0 } : Room) s m args below meth c 5 cs D kz_cl A (wq_G0 ad w) (wq_Q cs D kz_cl A (wq_G0 ad w) rt xt below s 0 0) pc (ku_M_came rt xt n pc) := by
    intro n
    induction n with
    | zero => intro pc _ L S w9 n1 n2 h; exact h.elim
    | succ n ih => intro pc hpc; exact (hall (ku_M_came rt xt n) ih).1 pc hpc
  exact (hall (ku_M_came rt xt 1000000000000) (hun 1000000000000)).2 _ _ _ _ _ (wq_sp_t hsp)
set_option maxRecDepth 100000 in
set_option maxHeartbeats 4000000 in
theorem kv_M_account {l : Launch} (hl : l.stackTraces = false) : wq_Vld l kz_cl ky_M_account kw_T ({ frames := 1, cells := 0, slots := 0, locals := 24 }) wq_G0 ks_M_account 0 0 := by
  refine wq_method (cc := kc_M_account) (maxL := 3) (ret := (some .long)) (by decide) kw_1404 (fun _ _ => rfl) wq_sp_sz ?_
  intro p e s m args below meth c cs D ad as w rt xt hF hnt hsp
  obtain ⟨h0, hr, hts, hown, hlk, hnm, hml, hK, hZ, hN, hA⟩ := hF
  have hown : s.vm.findClass "BorderDeskModel" = some m.cls := hown
  obtain ⟨A, hAe⟩ : ∃ A, A = wq_A ad w s.heap.size := ⟨_, rfl⟩
  rw [← hAe] at hZ hA ⊢
  have hb_72 : wq_Snd p l e ({ frames := 1, cells := 0, slots := 0, locals := 24 } : Room) s m args below meth c 3 cs D kz_cl A (wq_G0 ad w) (wq_Q cs D kz_cl A (wq_G0 ad w) rt xt below s 0 0) 72 (kt_M_account_72 rt xt) := by
    refine wq_aload_n_ok h0 kd_M_account_72 rfl ?_
    refine wq_iload_n_ok h0 kd_M_account_73 rfl ?_
    refine wq_iconst_ok h0 kd_M_account_74 (by decide +kernel) ?_
    refine wq_call_ok hA (wq_runV (ci := 9) ⟨h0.1, h0.2, hml, hown, hts⟩ (kv_M_came hl) ⟨(wq_cB hts kw_G kw_1408 kw_10 kw_1405 ⟨by decide +kernel, by decide +kernel, by decide +kernel⟩ rfl rfl ⟨Nat.le_of_ble_eq_true rfl, Nat.le_of_ble_eq_true rfl⟩), hts _ kw_1407, hts _ kw_s55⟩ rfl rfl hK hZ hN hA kd_M_account_75) (wq_xout_ok hnt hlk) ?_
    refine wq_i2l_ok h0 kd_M_account_78 ?_
    exact wq_lreturn_ok h0 hr hlk kd_M_account_79
  have hb_80 : wq_Snd p l e ({ frames := 1, cells := 0, slots := 0, locals := 24 } : Room) s m args below meth c 3 cs D kz_cl A (wq_G0 ad w) (wq_Q cs D kz_cl A (wq_G0 ad w) rt xt below s 0 0) 80 (kt_M_account_80 rt xt) := by
    refine wq_aload_n_ok h0 kd_M_account_80 rfl ?_
    refine wq_iload_n_ok h0 kd_M_account_81 rfl ?_
    refine wq_iconst_ok h0 kd_M_account_82 (by decide +kernel) ?_
    refine wq_call_ok hA (wq_runV (ci := 9) ⟨h0.1, h0.2, hml, hown, hts⟩ (kv_M_came hl) ⟨(wq_cB hts kw_G kw_1408 kw_10 kw_1405 ⟨by decide +kernel, by decide +kernel, by decide +kernel⟩ rfl rfl ⟨Nat.le_of_ble_eq_true rfl, Nat.le_of_ble_eq_true rfl⟩), hts _ kw_1407, hts _ kw_s55⟩ rfl rfl hK hZ hN hA kd_M_account_83) (wq_xout_ok hnt hlk) ?_
    refine wq_i2l_ok h0 kd_M_account_86 ?_
    exact wq_lreturn_ok h0 hr hlk kd_M_account_87
  have hb_88 : wq_Snd p l e ({ frames := 1, cells := 0, slots := 0, locals := 24 } : Room) s m args below meth c 3 cs D kz_cl A (wq_G0 ad w) (wq_Q cs D kz_cl A (wq_G0 ad w) rt xt below s 0 0) 88 (kt_M_account_88 rt xt) := by
    refine wq_aload_n_ok h0 kd_M_account_88 rfl ?_
    refine wq_get_ok (wq_getOK h0 hts ki_M hown hK (ci := 9) rfl 63 (Nat.le_of_ble_eq_true rfl) kw_1045 rfl) kd_M_account_89 ?_
    refine wq_iload_n_ok h0 kd_M_account_92 rfl ?_
    refine wq_iald_ok h0 hK kd_M_account_93 ?_
    refine wq_i2l_ok h0 kd_M_account_94 ?_
    exact wq_lreturn_ok h0 hr hlk kd_M_account_95
  have hb_96 : wq_Snd p l e ({ frames := 1, cells := 0, slots := 0, locals := 24 } : Room) s m args below meth c 3 cs D kz_cl A (wq_G0 ad w) (wq_Q cs D kz_cl A (wq_G0 ad w) rt xt below s 0 0) 96 (kt_M_account_96 rt xt) := by
    refine wq_aload_n_ok h0 kd_M_account_96 rfl ?_
    refine wq_get_ok (wq_getOK h0 hts ki_M hown hK (ci := 9) rfl 64 (Nat.le_of_ble_eq_true rfl) kw_1046 rfl) kd_M_account_97 ?_
    refine wq_iload_n_ok h0 kd_M_account_100 rfl ?_
    refine wq_iald_ok h0 hK kd_M_account_101 ?_
    refine wq_i2l_ok h0 kd_M_account_102 ?_
    exact wq_lreturn_ok h0 hr hlk kd_M_account_103
  have hb_104 : wq_Snd p l e ({ frames := 1, cells := 0, slots := 0, locals := 24 } : Room) s m args below meth c 3 cs D kz_cl A (wq_G0 ad w) (wq_Q cs D kz_cl A (wq_G0 ad w) rt xt below s 0 0) 104 (kt_M_account_104 rt xt) := by
    refine wq_aload_n_ok h0 kd_M_account_104 rfl ?_
    refine wq_get_ok (wq_getOK h0 hts ki_M hown hK (ci := 9) rfl 65 (Nat.le_of_ble_eq_true rfl) kw_1047 rfl) kd_M_account_105 ?_
    refine wq_iload_n_ok h0 kd_M_account_108 rfl ?_
    refine wq_iald_ok h0 hK kd_M_account_109 ?_
    refine wq_i2l_ok h0 kd_M_account_110 ?_
    exact wq_lreturn_ok h0 hr hlk kd_M_account_111
  have hb_112 : wq_Snd p l e ({ frames := 1, cells := 0, slots := 0, locals := 24 } : Room) s m args below meth c 3 cs D kz_cl A (wq_G0 ad w) (wq_Q cs D kz_cl A (wq_G0 ad w) rt xt below s 0 0) 112 (kt_M_account_112 rt xt) := by
    refine wq_aload_n_ok h0 kd_M_account_112 rfl ?_
    refine wq_iload_n_ok h0 kd_M_account_113 rfl ?_
    refine wq_iconst_ok h0 kd_M_account_114 (by decide +kernel) ?_
    refine wq_call_ok hA (wq_runV (ci := 9) ⟨h0.1, h0.2, hml, hown, hts⟩ (kv_M_left hl) ⟨(wq_cB hts kw_G kw_1384 kw_10 kw_1381 ⟨by decide +kernel, by decide +kernel, by decide +kernel⟩ rfl rfl ⟨Nat.le_of_ble_eq_true rfl, Nat.le_of_ble_eq_true rfl⟩), hts _ kw_1383, hts _ kw_s53⟩ rfl rfl hK hZ hN hA kd_M_account_115) (wq_xout_ok hnt hlk) ?_
    refine wq_i2l_ok h0 kd_M_account_118 ?_
    exact wq_lreturn_ok h0 hr hlk kd_M_account_119
  have hb_37 : wq_Snd p l e ({ frames := 1, cells := 0, slots := 0, locals := 24 } : Room) s m args below meth c 3 cs D kz_cl A (wq_G0 ad w) (wq_Q cs D kz_cl A (wq_G0 ad w) rt xt below s 0 0) 37 (kt_M_account_37 rt xt) := by
    refine wq_iload_n_ok h0 kd_M_account_37 rfl ?_
    refine wq_sw_ok ?_ ?_
    · exact List.forall_mem_cons.mpr ⟨⟨72, (by exact hb_72), fun H locs n1 n2 ls rest hw => lv_tableIn (tgt := 72) (off := 34) h0.1 h0.2 kd_M_account_38 (show ¬ (nI 0).toInt < 0 by decide +kernel) (show ¬ 4 < (nI 0).toInt by decide +kernel) (show (#[34, 42, 50, 58, 66] : Array Int)[((nI 0).toInt - 0).toNat]? = some 34 by decide +kernel) (by decide) hw⟩, List.forall_mem_cons.mpr ⟨⟨80, (by exact hb_80), fun H locs n1 n2 ls rest hw => lv_tableIn (tgt := 80) (off := 42) h0.1 h0.2 kd_M_account_38 (show ¬ (nI 1).toInt < 0 by decide +kernel) (show ¬ 4 < (nI 1).toInt by decide +kernel) (show (#[34, 42, 50, 58, 66] : Array Int)[((nI 1).toInt - 0).toNat]? = some 42 by decide +kernel) (by decide) hw⟩, List.forall_mem_cons.mpr ⟨⟨88, (by exact hb_88), fun H locs n1 n2 ls rest hw => lv_tableIn (tgt := 88) (off := 50) h0.1 h0.2 kd_M_account_38 (show ¬ (nI 2).toInt < 0 by decide +kernel) (show ¬ 4 < (nI 2).toInt by decide +kernel) (show (#[34, 42, 50, 58, 66] : Array Int)[((nI 2).toInt - 0).toNat]? = some 50 by decide +kernel) (by decide) hw⟩, List.forall_mem_cons.mpr ⟨⟨96, (by exact hb_96), fun H locs n1 n2 ls rest hw => lv_tableIn (tgt := 96) (off := 58) h0.1 h0.2 kd_M_account_38 (show ¬ (nI 3).toInt < 0 by decide +kernel) (show ¬ 4 < (nI 3).toInt by decide +kernel) (show (#[34, 42, 50, 58, 66] : Array Int)[((nI 3).toInt - 0).toNat]? = some 58 by decide +kernel) (by decide) hw⟩, List.forall_mem_cons.mpr ⟨⟨104, (by exact hb_104), fun H locs n1 n2 ls rest hw => lv_tableIn (tgt := 104) (off := 66) h0.1 h0.2 kd_M_account_38 (show ¬ (nI 4).toInt < 0 by decide +kernel) (show ¬ 4 < (nI 4).toInt by decide +kernel) (show (#[34, 42, 50, 58, 66] : Array Int)[((nI 4).toInt - 0).toNat]? = some 66 by decide +kernel) (by decide) hw⟩, fun _ h => absurd h List.not_mem_nil⟩⟩⟩⟩⟩
    · exact ⟨112, (by exact hb_112), fun H locs n1 n2 ls rest x hq hw => lv_tableOut (tgt := 112) h0.1 h0.2 kd_M_account_38 (wq_tabO 0 4 (by decide) (fun k h1 h2 => by rcases (show k = 0 ∨ k = 1 ∨ k = 2 ∨ k = 3 ∨ k = 4 by omega) with rfl | rfl | rfl | rfl | rfl <;> first | exact hq _ List.mem_cons_self | exact hq _ (List.mem_cons_of_mem _ List.mem_cons_self) | exact hq _ (List.mem_cons_of_mem _ (List.mem_cons_of_mem _ List.mem_cons_self)) | exact hq _ (List.mem_cons_of_mem _ (List.mem_cons_of_mem _ (List.mem_cons_of_mem _ List.mem_cons_self))) | exact hq _ (List.mem_cons_of_mem _ (List.mem_cons_of_mem _ (List.mem_cons_of_mem _ (List.mem_cons_of_mem _ List.mem_cons_self)))))) (by decide) hw⟩
  have hb_25 : wq_Snd p l e ({ frames := 1, cells := 0, slots := 0, locals := 24 } : Room) s m args below meth c 3 cs D kz_cl A (wq_G0 ad w) (wq_Q cs D kz_cl A (wq_G0 ad w) rt xt below s 0 0) 25 (kt_M_account_25 rt xt) := by
    refine wq_put_ok (wq_putOK h0 hts ki_M ka_M kb_M kn_M hown hK (ci := 9) rfl 0 (Nat.le_of_ble_eq_true rfl) kw_982 rfl (Or.inl rfl) wq_okI) kd_M_account_25 ?_
    refine wq_aload_n_ok h0 kd_M_account_28 rfl ?_
    refine wq_get_ok (wq_getOK h0 hts ki_M hown hK (ci := 9) rfl 0 (Nat.le_of_ble_eq_true rfl) kw_982 rfl) kd_M_account_29 ?_
    refine wq_if_le_ok (tgt := 37) h0 kd_M_account_32 (by decide) ?_ ?_
    · exact hb_37
    refine wq_lconst_ok h0 kd_M_account_35 (by decide +kernel) ?_
    exact wq_lreturn_ok h0 hr hlk kd_M_account_36
  have hb_24 : wq_Snd p l e ({ frames := 1, cells := 0, slots := 0, locals := 24 } : Room) s m args below meth c 3 cs D kz_cl A (wq_G0 ad w) (wq_Q cs D kz_cl A (wq_G0 ad w) rt xt below s 0 0) 24 (kt_M_account_24 rt xt) := by
    refine wq_iconst_ok h0 kd_M_account_24 (by decide +kernel) ?_
    exact hb_25
  have hb_0 : wq_Snd p l e ({ frames := 1, cells := 0, slots := 0, locals := 24 } : Room) s m args below meth c 3 cs D kz_cl A (wq_G0 ad w) (wq_Q cs D kz_cl A (wq_G0 ad w) rt xt below s 0 0) 0 (kt_M_account_0 rt xt) := by
    refine wq_aload_n_ok h0 kd_M_account_0 rfl ?_
    refine wq_iload_n_ok h0 kd_M_account_1 rfl ?_
    refine wq_iconst_ok h0 kd_M_account_2 (by decide +kernel) ?_
    refine wq_bipush_ok h0 kd_M_account_3 (by decide +kernel) ?_
    refine wq_call_ok hA (wq_runS ⟨h0.1, h0.2, hml, hown, hts⟩ (kv_M_within hl) ⟨(wq_cB hts kw_G kw_1209 kw_10 kw_1207 ⟨by decide +kernel, by decide +kernel, by decide +kernel⟩ rfl rfl ⟨Nat.le_of_ble_eq_true rfl, Nat.le_of_ble_eq_true rfl⟩), hts _ kw_1208⟩ hK hZ hN hA kd_M_account_5) (wq_xout_ok hnt hlk) ?_
    refine wq_if_eq_ok (tgt := 24) h0 kd_M_account_8 (by decide) ?_ ?_
    · exact hb_24
    refine wq_iload_n_ok h0 kd_M_account_11 rfl ?_
    refine wq_iconst_ok h0 kd_M_account_12 (by decide +kernel) ?_
    refine wq_iconst_ok h0 kd_M_account_13 (by decide +kernel) ?_
    refine wq_call_ok hA (wq_runS ⟨h0.1, h0.2, hml, hown, hts⟩ (kv_M_within hl) ⟨(wq_cB hts kw_G kw_1209 kw_10 kw_1207 ⟨by decide +kernel, by decide +kernel, by decide +kernel⟩ rfl rfl ⟨Nat.le_of_ble_eq_true rfl, Nat.le_of_ble_eq_true rfl⟩), hts _ kw_1208⟩ hK hZ hN hA kd_M_account_14) (wq_xout_ok hnt hlk) ?_
    refine wq_if_eq_ok (tgt := 24) h0 kd_M_account_17 (by decide) ?_ ?_
    · exact hb_24
    refine wq_iconst_ok h0 kd_M_account_20 (by decide +kernel) ?_
    refine wq_goto_ok (tgt := 25) h0 kd_M_account_21 (by decide) ?_
    exact hb_25
  exact hb_0 _ _ _ _ _ (wq_sp_t hsp)
set_option maxRecDepth 100000 in
set_option maxHeartbeats 4000000 in
theorem kv_M_books {l : Launch} (hl : l.stackTraces = false) : wq_Vld l kz_cl ky_M_books kw_T ({ frames := 1, cells := 0, slots := 0, locals := 22 }) wq_G0 ks_M_books 0 0 := by
  refine wq_method (cc := kc_M_books) (maxL := 2) (ret := (some .long)) (by decide) kw_1412 (fun _ _ => rfl) wq_sp_sz ?_
  intro p e s m args below meth c cs D ad as w rt xt hF hnt hsp
  obtain ⟨h0, hr, hts, hown, hlk, hnm, hml, hK, hZ, hN, hA⟩ := hF
  have hown : s.vm.findClass "BorderDeskModel" = some m.cls := hown
  obtain ⟨A, hAe⟩ : ∃ A, A = wq_A ad w s.heap.size := ⟨_, rfl⟩
  rw [← hAe] at hZ hA ⊢
  have hb_44 : wq_Snd p l e ({ frames := 1, cells := 0, slots := 0, locals := 22 } : Room) s m args below meth c 2 cs D kz_cl A (wq_G0 ad w) (wq_Q cs D kz_cl A (wq_G0 ad w) rt xt below s 0 0) 44 (kt_M_books_44 rt xt) := by
    exact wq_lreturn_ok h0 hr hlk kd_M_books_44
  have hb_40 : wq_Snd p l e ({ frames := 1, cells := 0, slots := 0, locals := 22 } : Room) s m args below meth c 2 cs D kz_cl A (wq_G0 ad w) (wq_Q cs D kz_cl A (wq_G0 ad w) rt xt below s 0 0) 40 (kt_M_books_40 rt xt) := by
    refine wq_aload_n_ok h0 kd_M_books_40 rfl ?_
    refine wq_get_ok (wq_getOK h0 hts ki_M hown hK (ci := 9) rfl 67 (Nat.le_of_ble_eq_true rfl) kw_1049 rfl) kd_M_books_41 ?_
    exact hb_44
  have hb_29 : wq_Snd p l e ({ frames := 1, cells := 0, slots := 0, locals := 22 } : Room) s m args below meth c 2 cs D kz_cl A (wq_G0 ad w) (wq_Q cs D kz_cl A (wq_G0 ad w) rt xt below s 0 0) 29 (kt_M_books_29 rt xt) := by
    refine wq_iload_n_ok h0 kd_M_books_29 rfl ?_
    refine wq_if_ne_ok (tgt := 40) h0 kd_M_books_30 (by decide) ?_ ?_
    · exact hb_40
    refine wq_aload_n_ok h0 kd_M_books_33 rfl ?_
    refine wq_get_ok (wq_getOK h0 hts ki_M hown hK (ci := 9) rfl 66 (Nat.le_of_ble_eq_true rfl) kw_1048 rfl) kd_M_books_34 ?_
    refine wq_goto_ok (tgt := 44) h0 kd_M_books_37 (by decide) ?_
    exact hb_44
  have hb_15 : wq_Snd p l e ({ frames := 1, cells := 0, slots := 0, locals := 22 } : Room) s m args below meth c 2 cs D kz_cl A (wq_G0 ad w) (wq_Q cs D kz_cl A (wq_G0 ad w) rt xt below s 0 0) 15 (kt_M_books_15 rt xt) := by
    refine wq_put_ok (wq_putOK h0 hts ki_M ka_M kb_M kn_M hown hK (ci := 9) rfl 0 (Nat.le_of_ble_eq_true rfl) kw_982 rfl (Or.inl rfl) wq_okI) kd_M_books_15 ?_
    refine wq_aload_n_ok h0 kd_M_books_18 rfl ?_
    refine wq_get_ok (wq_getOK h0 hts ki_M hown hK (ci := 9) rfl 0 (Nat.le_of_ble_eq_true rfl) kw_982 rfl) kd_M_books_19 ?_
    refine wq_if_le_ok (tgt := 29) h0 kd_M_books_22 (by decide) ?_ ?_
    · exact hb_29
    refine wq_lconst_ok h0 kd_M_books_25 (by decide +kernel) ?_
    refine wq_goto_ok (tgt := 44) h0 kd_M_books_26 (by decide) ?_
    exact hb_44
  have hb_14 : wq_Snd p l e ({ frames := 1, cells := 0, slots := 0, locals := 22 } : Room) s m args below meth c 2 cs D kz_cl A (wq_G0 ad w) (wq_Q cs D kz_cl A (wq_G0 ad w) rt xt below s 0 0) 14 (kt_M_books_14 rt xt) := by
    refine wq_iconst_ok h0 kd_M_books_14 (by decide +kernel) ?_
    exact hb_15
  have hb_0 : wq_Snd p l e ({ frames := 1, cells := 0, slots := 0, locals := 22 } : Room) s m args below meth c 2 cs D kz_cl A (wq_G0 ad w) (wq_Q cs D kz_cl A (wq_G0 ad w) rt xt below s 0 0) 0 (kt_M_books_0 rt xt) := by
    refine wq_aload_n_ok h0 kd_M_books_0 rfl ?_
    refine wq_iload_n_ok h0 kd_M_books_1 rfl ?_
    refine wq_iconst_ok h0 kd_M_books_2 (by decide +kernel) ?_
    refine wq_iconst_ok h0 kd_M_books_3 (by decide +kernel) ?_
    refine wq_call_ok hA (wq_runS ⟨h0.1, h0.2, hml, hown, hts⟩ (kv_M_within hl) ⟨(wq_cB hts kw_G kw_1209 kw_10 kw_1207 ⟨by decide +kernel, by decide +kernel, by decide +kernel⟩ rfl rfl ⟨Nat.le_of_ble_eq_true rfl, Nat.le_of_ble_eq_true rfl⟩), hts _ kw_1208⟩ hK hZ hN hA kd_M_books_4) (wq_xout_ok hnt hlk) ?_
    refine wq_if_eq_ok (tgt := 14) h0 kd_M_books_7 (by decide) ?_ ?_
    · exact hb_14
    refine wq_iconst_ok h0 kd_M_books_10 (by decide +kernel) ?_
    refine wq_goto_ok (tgt := 15) h0 kd_M_books_11 (by decide) ?_
    exact hb_15
  exact hb_0 _ _ _ _ _ (wq_sp_t hsp)
