def sm_L_takeUnits : List Nat := [63]
set_option maxRecDepth 100000 in
set_option maxHeartbeats 4000000 in
theorem sc_L_takeUnits {w0 : wq_W} (hI0 : sf_I w0) {rt : Option wq_V → wq_W → Prop} {xt : Nat → wq_W → Prop} {a_ofGood : Int32} {a_wanted : Int32} {a_ofHeld : Int32} (p0 : 0 ≤ a_wanted.toInt) (p1 : a_wanted.toInt ≤ 1000) (p2 : 0 ≤ a_ofHeld.toInt) (p3 : a_ofHeld.toInt ≤ 1) (p4 : sl_B (sf_a w0 62) (sf_a w0 63)) (hR : ∀ (r : Int64) (w : wq_W), sf_I w → sf_m sm_L_takeUnits w0 w → (sl_T (sf_a w0 63) (sf_a w 63) (sl_mt (sf_a w0 61) (sf_a w0 65) a_ofGood.toInt a_ofHeld.toInt) (sl_v (sf_a w0 62) (sf_a w0 63)) a_wanted.toInt (sf_f w0 60 0).toInt.toNat) → rt (some (.inl (.long r))) w) : ks_L_takeUnits [.inl (.ref 60), .inl (.int a_ofGood), .inl (.int a_wanted), .inl (.int a_ofHeld)] w0 rt xt := by
  have hs0 : sf_m sm_L_takeUnits w0 w0 := sf_m0
  have b10 := (sf_fb hI0 (p := 60) (ci := 7) (j := 0) rfl rfl)
  have hl : ∀ n : Nat, (∀ (w : wq_W) (x4 : Int64) (x6 : Int32) (x7 : Int32), (sf_I w) → (sf_m sm_L_takeUnits w0 w) → (0 ≤ x6.toInt) → (x6.toInt ≤ 1000) → (0 ≤ x7.toInt) → (x7.toInt ≤ 40) → (x6.toInt = sl_m (sl_mt (sf_a w0 61) (sf_a w0 65) a_ofGood.toInt a_ofHeld.toInt) (sl_v (sf_a w0 62) (sf_a w0 63)) a_wanted.toInt x7.toInt.toNat) → (sl_T (sf_a w0 63) (sf_a w 63) (sl_mt (sf_a w0 61) (sf_a w0 65) a_ofGood.toInt a_ofHeld.toInt) (sl_v (sf_a w0 62) (sf_a w0 63)) a_wanted.toInt x7.toInt.toNat) → (x7.toInt ≤ (sf_f w0 60 0).toInt) → (40 - x7.toInt < (n : Int)) → ku_L_takeUnits rt xt n 9 [(0, .inl (.ref 60)), (1, .inl (.int a_ofGood)), (3, .inl (.int a_ofHeld)), (4, .inl (.long x4)), (6, .inl (.int x6)), (7, .inl (.int x7))] [] w 0 0) := by
    intro n
    induction n with
    | zero =>
      refine ?_
      · intros; omega
    | succ n ih =>
      have i_9 := ih
      intro w x4 x6 x7 I_w s_w l_x6 u_x6 l_x7 u_x7 f_0 f_1 f_2 hm
      show kh_L_takeUnits_9 rt xt (ku_L_takeUnits rt xt n) [(0, .inl (.ref 60)), (1, .inl (.int a_ofGood)), (3, .inl (.int a_ofHeld)), (4, .inl (.long x4)), (6, .inl (.int x6)), (7, .inl (.int x7))] [] w 0 0
      generalize ku_L_takeUnits rt xt n = K at i_9 ⊢
      have hB := fun h9 : x7.toInt < 40 => p4 x7.toInt.toNat (by omega)
      have hv : (sl_v (sf_a w0 62) (sf_a w0 63)) x7.toInt.toNat = (sf_a w0 62 x7.toInt.toNat).toInt - (sf_a w0 63 x7.toInt.toNat).toInt := rfl
      have hT := fun h9 : x7.toInt < 40 => f_1 x7.toInt.toNat (by omega)
      rw [sl_tg (Nat.le_refl _)] at hT
      refine sf_iload rfl ?_
      refine sf_aload rfl ?_
      refine sf_geti I_w rfl rfl (fun v1 lv1 uv1 ev1 => ?_)
      rw [sf_mf s_w (p := 60) (j := 0) rfl] at ev1
      refine sf_f2_ge (fun h2 => ?_) (fun h2 => ?_)
      · refine sf_lload rfl ?_
        refine sf_lreturn rfl rfl ?_
        exact hR _ _ I_w s_w (by exact sl_TE f_1 (fun i hi => (sl_Bv p4 hi).1) (by omega) (by omega))
      · refine sf_iload rfl ?_
        refine sf_f1_le (fun h3 => ?_) (fun h3 => ?_)
        · refine sf_lload rfl ?_
          refine sf_lreturn rfl rfl ?_
          exact hR _ _ I_w s_w (by exact sl_TE f_1 (fun i hi => (sl_Bv p4 hi).1) (by omega) (by omega))
        · refine sf_aload rfl ?_
          refine sf_getr I_w rfl rfl ?_
          refine sf_iload rfl ?_
          refine sf_iald I_w rfl (by omega) (fun v4 lv4 uv4 ev4 => ?_)
          clear lv4 uv4
          rw [sf_ma s_w (p := 61) rfl] at ev4
          refine sf_iload rfl ?_
          refine sf_f2_eq (fun h5 => ?_) (fun h5 => ?_)
          · refine sf_aload rfl ?_
            refine sf_getr I_w rfl rfl ?_
            refine sf_iload rfl ?_
            refine sf_zald I_w rfl (by omega) (fun v6 lv6 uv6 ev6 => ?_)
            rw [sf_ma s_w (p := 65) rfl] at ev6
            refine sf_iload rfl ?_
            refine sf_f2_eq (fun h7 => ?_) (fun h7 => ?_)
            · refine sf_iload rfl ?_
              refine sf_aload rfl ?_
              refine sf_getr I_w rfl rfl ?_
              refine sf_iload rfl ?_
              refine sf_iald I_w rfl (by omega) (fun v8 lv8 uv8 ev8 => ?_)
              rw [sf_ma s_w (p := 62) rfl] at ev8
              refine sf_aload rfl ?_
              refine sf_getr I_w rfl rfl ?_
              refine sf_iload rfl ?_
              refine sf_iald I_w rfl (by omega) (fun v9 lv9 uv9 ev9 => ?_)
              clear lv9 uv9
              refine sf_isub (by omega) (fun v10 ev10 => ?_)
              refine sf_mmin rfl rfl rfl (fun v11 ev11 => ?_)
              refine sf_istore (L' := [(0, .inl (.ref 60)), (1, .inl (.int a_ofGood)), (3, .inl (.int a_ofHeld)), (4, .inl (.long x4)), (6, .inl (.int x6)), (7, .inl (.int x7))]) rfl ?_
              refine sf_aload rfl ?_
              refine sf_iload rfl ?_
              refine sf_call2 rfl rfl rfl ?_
              refine sf_rv I_w rfl ?_
              refine sf_sp (L := [(0, .inl (.ref 60)), (1, .inl (.int x7))]) rfl rfl ?_
              refine sf_aload rfl ?_
              refine sf_getr I_w rfl rfl ?_
              refine sf_iload rfl ?_
              refine sf_iald I_w rfl (by omega) (fun v12 lv12 uv12 ev12 => ?_)
              rw [sf_ma s_w (p := 62) rfl] at ev12
              refine sf_f1_gt (fun h13 => ?_) (fun h13 => ?_)
              · refine sf_aload rfl ?_
                refine sf_getr I_w rfl rfl ?_
                refine sf_iload rfl ?_
                refine sf_lald I_w rfl (by omega) (fun v14 ev14 => ?_)
                clear ev14
                refine sf_aload rfl ?_
                refine sf_getr I_w rfl rfl ?_
                refine sf_iload rfl ?_
                refine sf_iald I_w rfl (by omega) (fun v15 lv15 uv15 ev15 => ?_)
                clear lv15 uv15
                refine sf_i2lb (fun v16 ev16 lv16 uv16 => ?_)
                refine sf_l2 (fun v17 => ?_)
                refine sf_aload rfl ?_
                refine sf_getr I_w rfl rfl ?_
                refine sf_iload rfl ?_
                refine sf_iald I_w rfl (by omega) (fun v18 lv18 uv18 ev18 => ?_)
                rw [sf_ma s_w (p := 62) rfl] at ev18
                refine sf_i2lb (fun v19 ev19 lv19 uv19 => ?_)
                refine sf_l2d (by omega) (fun v20 => ?_)
                refine sf_lreturn rfl rfl ?_
                refine sf_lstore (L' := [(8, .inl (.int v11)), (0, .inl (.ref 60)), (1, .inl (.int a_ofGood)), (3, .inl (.int a_ofHeld)), (4, .inl (.long x4)), (6, .inl (.int x6)), (7, .inl (.int x7))]) rfl ?_
                refine sf_aload rfl ?_
                refine sf_getr I_w rfl rfl ?_
                refine sf_iload rfl ?_
                refine sf_dup2 rfl rfl ?_
                refine sf_iald I_w rfl (by omega) (fun v21 lv21 uv21 ev21 => ?_)
                clear lv21 uv21
                refine sf_iload rfl ?_
                refine sf_iadd (by omega) (fun v22 ev22 => ?_)
                refine sf_iast I_w s_w rfl (by omega) (sf_bd _) rfl rfl (fun w23 Iw23 sw23 kw23 uw23 => ?_)
                clear kw23
                have gs := uw23
                skip
                refine sf_iload rfl ?_
                refine sf_iload rfl ?_
                refine sf_isub (by omega) (fun v24 ev24 => ?_)
                refine sf_istore (L' := [(9, .inl (.long v20)), (8, .inl (.int v11)), (0, .inl (.ref 60)), (1, .inl (.int a_ofGood)), (3, .inl (.int a_ofHeld)), (4, .inl (.long x4)), (7, .inl (.int x7))]) rfl ?_
                refine sf_lload rfl ?_
                refine sf_aload rfl ?_
                refine sf_iload rfl ?_
                refine sf_call2 rfl rfl rfl ?_
                refine sf_rv Iw23 rfl ?_
                refine sf_sp (L := [(0, .inl (.ref 60)), (1, .inl (.int x7))]) rfl rfl ?_
                refine sf_aload rfl ?_
                refine sf_getr Iw23 rfl rfl ?_
                refine sf_iload rfl ?_
                refine sf_iald Iw23 rfl (by omega) (fun v25 lv25 uv25 ev25 => ?_)
                rw [sf_ma sw23 (p := 62) rfl] at ev25
                refine sf_f1_gt (fun h26 => ?_) (fun h26 => ?_)
                · refine sf_aload rfl ?_
                  refine sf_getr Iw23 rfl rfl ?_
                  refine sf_iload rfl ?_
                  refine sf_lald Iw23 rfl (by omega) (fun v27 ev27 => ?_)
                  clear ev27
                  refine sf_aload rfl ?_
                  refine sf_getr Iw23 rfl rfl ?_
                  refine sf_iload rfl ?_
                  refine sf_iald Iw23 rfl (by omega) (fun v28 lv28 uv28 ev28 => ?_)
                  clear lv28 uv28
                  refine sf_i2lb (fun v29 ev29 lv29 uv29 => ?_)
                  refine sf_l2 (fun v30 => ?_)
                  refine sf_aload rfl ?_
                  refine sf_getr Iw23 rfl rfl ?_
                  refine sf_iload rfl ?_
                  refine sf_iald Iw23 rfl (by omega) (fun v31 lv31 uv31 ev31 => ?_)
                  rw [sf_ma sw23 (p := 62) rfl] at ev31
                  refine sf_i2lb (fun v32 ev32 lv32 uv32 => ?_)
                  refine sf_l2d (by omega) (fun v33 => ?_)
                  refine sf_lreturn rfl rfl ?_
                  refine sf_lload rfl ?_
                  refine sf_l2 (fun v34 => ?_)
                  refine sf_l2 (fun v35 => ?_)
                  refine sf_lstore (L' := [(6, .inl (.int v24)), (9, .inl (.long v20)), (8, .inl (.int v11)), (0, .inl (.ref 60)), (1, .inl (.int a_ofGood)), (3, .inl (.int a_ofHeld)), (7, .inl (.int x7))]) rfl ?_
                  refine sf_iinc (L' := [(4, .inl (.long v35)), (6, .inl (.int v24)), (9, .inl (.long v20)), (8, .inl (.int v11)), (0, .inl (.ref 60)), (1, .inl (.int a_ofGood)), (3, .inl (.int a_ofHeld))]) sf_c1 rfl rfl (by omega) (fun v36 ev36 => ?_)
                  refine sf_can (L' := [(0, .inl (.ref 60)), (1, .inl (.int a_ofGood)), (3, .inl (.int a_ofHeld)), (4, .inl (.long v35)), (6, .inl (.int v24)), (7, .inl (.int v36))]) rfl ?_
                  exact i_9 w23 v35 v24 v36 Iw23 sw23 (by omega) (by omega) (by omega) (by omega) (by rw [sl_mT (n := x7.toInt.toNat) (by omega) (sl_mtT (by omega))]; omega) (by exact sl_TS (n := x7.toInt.toNat) f_1 (by omega) (by omega) (Or.inr ⟨sl_mtT (by omega), v22, gs, by omega⟩)) (by omega) (by omega)
                · refine sf_lconst (by decide : (0 : Int64).toInt = 0) (fun z37 ez37 => ?_)
                  refine sf_lreturn rfl rfl ?_
                  refine sf_lload rfl ?_
                  refine sf_l2 (fun v38 => ?_)
                  refine sf_l2 (fun v39 => ?_)
                  refine sf_lstore (L' := [(6, .inl (.int v24)), (9, .inl (.long v20)), (8, .inl (.int v11)), (0, .inl (.ref 60)), (1, .inl (.int a_ofGood)), (3, .inl (.int a_ofHeld)), (7, .inl (.int x7))]) rfl ?_
                  refine sf_iinc (L' := [(4, .inl (.long v39)), (6, .inl (.int v24)), (9, .inl (.long v20)), (8, .inl (.int v11)), (0, .inl (.ref 60)), (1, .inl (.int a_ofGood)), (3, .inl (.int a_ofHeld))]) sf_c1 rfl rfl (by omega) (fun v40 ev40 => ?_)
                  refine sf_can (L' := [(0, .inl (.ref 60)), (1, .inl (.int a_ofGood)), (3, .inl (.int a_ofHeld)), (4, .inl (.long v39)), (6, .inl (.int v24)), (7, .inl (.int v40))]) rfl ?_
                  exact i_9 w23 v39 v24 v40 Iw23 sw23 (by omega) (by omega) (by omega) (by omega) (by rw [sl_mT (n := x7.toInt.toNat) (by omega) (sl_mtT (by omega))]; omega) (by exact sl_TS (n := x7.toInt.toNat) f_1 (by omega) (by omega) (Or.inr ⟨sl_mtT (by omega), v22, gs, by omega⟩)) (by omega) (by omega)
              · refine sf_lconst (by decide : (0 : Int64).toInt = 0) (fun z41 ez41 => ?_)
                refine sf_lreturn rfl rfl ?_
                refine sf_lstore (L' := [(8, .inl (.int v11)), (0, .inl (.ref 60)), (1, .inl (.int a_ofGood)), (3, .inl (.int a_ofHeld)), (4, .inl (.long x4)), (6, .inl (.int x6)), (7, .inl (.int x7))]) rfl ?_
                refine sf_aload rfl ?_
                refine sf_getr I_w rfl rfl ?_
                refine sf_iload rfl ?_
                refine sf_dup2 rfl rfl ?_
                refine sf_iald I_w rfl (by omega) (fun v42 lv42 uv42 ev42 => ?_)
                clear lv42 uv42
                refine sf_iload rfl ?_
                refine sf_iadd (by omega) (fun v43 ev43 => ?_)
                refine sf_iast I_w s_w rfl (by omega) (sf_bd _) rfl rfl (fun w44 Iw44 sw44 kw44 uw44 => ?_)
                clear kw44
                have gs := uw44
                skip
                refine sf_iload rfl ?_
                refine sf_iload rfl ?_
                refine sf_isub (by omega) (fun v45 ev45 => ?_)
                refine sf_istore (L' := [(9, .inl (.long z41)), (8, .inl (.int v11)), (0, .inl (.ref 60)), (1, .inl (.int a_ofGood)), (3, .inl (.int a_ofHeld)), (4, .inl (.long x4)), (7, .inl (.int x7))]) rfl ?_
                refine sf_lload rfl ?_
                refine sf_aload rfl ?_
                refine sf_iload rfl ?_
                refine sf_call2 rfl rfl rfl ?_
                refine sf_rv Iw44 rfl ?_
                refine sf_sp (L := [(0, .inl (.ref 60)), (1, .inl (.int x7))]) rfl rfl ?_
                refine sf_aload rfl ?_
                refine sf_getr Iw44 rfl rfl ?_
                refine sf_iload rfl ?_
                refine sf_iald Iw44 rfl (by omega) (fun v46 lv46 uv46 ev46 => ?_)
                rw [sf_ma sw44 (p := 62) rfl] at ev46
                refine sf_f1_gt (fun h47 => ?_) (fun h47 => ?_)
                · refine sf_aload rfl ?_
                  refine sf_getr Iw44 rfl rfl ?_
                  refine sf_iload rfl ?_
                  refine sf_lald Iw44 rfl (by omega) (fun v48 ev48 => ?_)
                  clear ev48
                  refine sf_aload rfl ?_
                  refine sf_getr Iw44 rfl rfl ?_
                  refine sf_iload rfl ?_
                  refine sf_iald Iw44 rfl (by omega) (fun v49 lv49 uv49 ev49 => ?_)
                  clear lv49 uv49
                  refine sf_i2lb (fun v50 ev50 lv50 uv50 => ?_)
                  refine sf_l2 (fun v51 => ?_)
                  refine sf_aload rfl ?_
                  refine sf_getr Iw44 rfl rfl ?_
                  refine sf_iload rfl ?_
                  refine sf_iald Iw44 rfl (by omega) (fun v52 lv52 uv52 ev52 => ?_)
                  rw [sf_ma sw44 (p := 62) rfl] at ev52
                  refine sf_i2lb (fun v53 ev53 lv53 uv53 => ?_)
                  refine sf_l2d (by omega) (fun v54 => ?_)
                  refine sf_lreturn rfl rfl ?_
                  refine sf_lload rfl ?_
                  refine sf_l2 (fun v55 => ?_)
                  refine sf_l2 (fun v56 => ?_)
                  refine sf_lstore (L' := [(6, .inl (.int v45)), (9, .inl (.long z41)), (8, .inl (.int v11)), (0, .inl (.ref 60)), (1, .inl (.int a_ofGood)), (3, .inl (.int a_ofHeld)), (7, .inl (.int x7))]) rfl ?_
                  refine sf_iinc (L' := [(4, .inl (.long v56)), (6, .inl (.int v45)), (9, .inl (.long z41)), (8, .inl (.int v11)), (0, .inl (.ref 60)), (1, .inl (.int a_ofGood)), (3, .inl (.int a_ofHeld))]) sf_c1 rfl rfl (by omega) (fun v57 ev57 => ?_)
                  refine sf_can (L' := [(0, .inl (.ref 60)), (1, .inl (.int a_ofGood)), (3, .inl (.int a_ofHeld)), (4, .inl (.long v56)), (6, .inl (.int v45)), (7, .inl (.int v57))]) rfl ?_
                  exact i_9 w44 v56 v45 v57 Iw44 sw44 (by omega) (by omega) (by omega) (by omega) (by rw [sl_mT (n := x7.toInt.toNat) (by omega) (sl_mtT (by omega))]; omega) (by exact sl_TS (n := x7.toInt.toNat) f_1 (by omega) (by omega) (Or.inr ⟨sl_mtT (by omega), v43, gs, by omega⟩)) (by omega) (by omega)
                · refine sf_lconst (by decide : (0 : Int64).toInt = 0) (fun z58 ez58 => ?_)
                  refine sf_lreturn rfl rfl ?_
                  refine sf_lload rfl ?_
                  refine sf_l2 (fun v59 => ?_)
                  refine sf_l2 (fun v60 => ?_)
                  refine sf_lstore (L' := [(6, .inl (.int v45)), (9, .inl (.long z41)), (8, .inl (.int v11)), (0, .inl (.ref 60)), (1, .inl (.int a_ofGood)), (3, .inl (.int a_ofHeld)), (7, .inl (.int x7))]) rfl ?_
                  refine sf_iinc (L' := [(4, .inl (.long v60)), (6, .inl (.int v45)), (9, .inl (.long z41)), (8, .inl (.int v11)), (0, .inl (.ref 60)), (1, .inl (.int a_ofGood)), (3, .inl (.int a_ofHeld))]) sf_c1 rfl rfl (by omega) (fun v61 ev61 => ?_)
                  refine sf_can (L' := [(0, .inl (.ref 60)), (1, .inl (.int a_ofGood)), (3, .inl (.int a_ofHeld)), (4, .inl (.long v60)), (6, .inl (.int v45)), (7, .inl (.int v61))]) rfl ?_
                  exact i_9 w44 v60 v45 v61 Iw44 sw44 (by omega) (by omega) (by omega) (by omega) (by rw [sl_mT (n := x7.toInt.toNat) (by omega) (sl_mtT (by omega))]; omega) (by exact sl_TS (n := x7.toInt.toNat) f_1 (by omega) (by omega) (Or.inr ⟨sl_mtT (by omega), v43, gs, by omega⟩)) (by omega) (by omega)
            · refine sf_iinc (L' := [(0, .inl (.ref 60)), (1, .inl (.int a_ofGood)), (3, .inl (.int a_ofHeld)), (4, .inl (.long x4)), (6, .inl (.int x6))]) sf_c1 rfl rfl (by omega) (fun v62 ev62 => ?_)
              refine sf_can (L' := [(0, .inl (.ref 60)), (1, .inl (.int a_ofGood)), (3, .inl (.int a_ofHeld)), (4, .inl (.long x4)), (6, .inl (.int x6)), (7, .inl (.int v62))]) rfl ?_
              exact i_9 w x4 x6 v62 I_w s_w (by omega) (by omega) (by omega) (by omega) (by rw [sl_mF (n := x7.toInt.toNat) (by omega) (sl_mtF (by omega))]; exact f_0) (by exact sl_TS (n := x7.toInt.toNat) f_1 (by omega) (by omega) (Or.inl ⟨sl_mtF (by omega), rfl⟩)) (by omega) (by omega)
          · refine sf_iinc (L' := [(0, .inl (.ref 60)), (1, .inl (.int a_ofGood)), (3, .inl (.int a_ofHeld)), (4, .inl (.long x4)), (6, .inl (.int x6))]) sf_c1 rfl rfl (by omega) (fun v63 ev63 => ?_)
            refine sf_can (L' := [(0, .inl (.ref 60)), (1, .inl (.int a_ofGood)), (3, .inl (.int a_ofHeld)), (4, .inl (.long x4)), (6, .inl (.int x6)), (7, .inl (.int v63))]) rfl ?_
            exact i_9 w x4 x6 v63 I_w s_w (by omega) (by omega) (by omega) (by omega) (by rw [sl_mF (n := x7.toInt.toNat) (by omega) (sl_mtF (by omega))]; exact f_0) (by exact sl_TS (n := x7.toInt.toNat) f_1 (by omega) (by omega) (Or.inl ⟨sl_mtF (by omega), rfl⟩)) (by omega) (by omega)
  have hl1 := hl 1000000000000
  have i_9 := hl1
  clear hl hl1
  refine sf_sp (L := [(0, .inl (.ref 60)), (1, .inl (.int a_ofGood)), (2, .inl (.int a_wanted)), (3, .inl (.int a_ofHeld))]) rfl rfl ?_
  generalize ku_L_takeUnits rt xt 1000000000000 = K at i_9 ⊢
  refine sf_lconst (by decide : (0 : Int64).toInt = 0) (fun z64 ez64 => ?_)
  refine sf_lstore (L' := [(0, .inl (.ref 60)), (1, .inl (.int a_ofGood)), (2, .inl (.int a_wanted)), (3, .inl (.int a_ofHeld))]) rfl ?_
  refine sf_iload rfl ?_
  refine sf_istore (L' := [(4, .inl (.long z64)), (0, .inl (.ref 60)), (1, .inl (.int a_ofGood)), (2, .inl (.int a_wanted)), (3, .inl (.int a_ofHeld))]) rfl ?_
  refine sf_iconst sf_c0 (fun z65 ez65 => ?_)
  refine sf_istore (L' := [(6, .inl (.int a_wanted)), (4, .inl (.long z64)), (0, .inl (.ref 60)), (1, .inl (.int a_ofGood)), (2, .inl (.int a_wanted)), (3, .inl (.int a_ofHeld))]) rfl ?_
  refine sf_can (L' := [(0, .inl (.ref 60)), (1, .inl (.int a_ofGood)), (3, .inl (.int a_ofHeld)), (4, .inl (.long z64)), (6, .inl (.int a_wanted)), (7, .inl (.int z65))]) rfl ?_
  exact i_9 w0 z64 a_wanted z65 hI0 hs0 (by omega) (by omega) (by omega) (by omega) (by rw [sl_mz (by omega)]) (by exact sl_T0 rfl (by omega)) (by omega) (by omega)
def sm_L_add : List Nat := [60, 61, 62, 64, 65, 66, 7000]
set_option maxRecDepth 100000 in
set_option maxHeartbeats 4000000 in
theorem sc_L_add {w0 : wq_W} (hI0 : sf_I w0) {rt : Option wq_V → wq_W → Prop} {xt : Nat → wq_W → Prop} {a_ofGood : Int32} {a_ofUnits : Int32} {a_ofDuty : Int64} {a_isHeld : Int32} {a_isByWorking : Int32} (p0 : 0 ≤ a_isHeld.toInt) (p1 : a_isHeld.toInt ≤ 1) (p2 : 0 ≤ a_isByWorking.toInt) (p3 : a_isByWorking.toInt ≤ 1) (p4 : (sf_f w0 60 0).toInt < 40) (hR : ∀ (r : Int32) (w : wq_W), sf_I w → sf_m sm_L_add w0 w → 0 ≤ r.toInt → r.toInt ≤ 40 → ((sf_f w 60 0).toInt = (sf_f w0 60 0).toInt + 1) → (sf_a w 61 = upd (sf_a w0 61) (sf_f w0 60 0).toInt.toNat a_ofGood) → (sf_a w 62 = upd (sf_a w0 62) (sf_f w0 60 0).toInt.toNat a_ofUnits) → (sf_a w 65 = upd (sf_a w0 65) (sf_f w0 60 0).toInt.toNat a_isHeld) → (sf_a w 66 = upd (sf_a w0 66) (sf_f w0 60 0).toInt.toNat a_isByWorking) → (r.toInt = (sf_f w0 60 0).toInt) → rt (some (.inl (.int r))) w) : ks_L_add [.inl (.ref 60), .inl (.int a_ofGood), .inl (.int a_ofUnits), .inl (.long a_ofDuty), .inl (.int a_isHeld), .inl (.int a_isByWorking)] w0 rt xt := by
  have hs0 : sf_m sm_L_add w0 w0 := sf_m0
  refine sf_sp (L := [(0, .inl (.ref 60)), (1, .inl (.int a_ofGood)), (2, .inl (.int a_ofUnits)), (3, .inl (.long a_ofDuty)), (5, .inl (.int a_isHeld)), (6, .inl (.int a_isByWorking))]) rfl rfl ?_
  refine sf_aload rfl ?_
  refine sf_geti hI0 rfl rfl (fun v1 lv1 uv1 ev1 => ?_)
  refine sf_istore (L' := [(0, .inl (.ref 60)), (1, .inl (.int a_ofGood)), (2, .inl (.int a_ofUnits)), (3, .inl (.long a_ofDuty)), (5, .inl (.int a_isHeld)), (6, .inl (.int a_isByWorking))]) rfl ?_
  refine sf_aload rfl ?_
  refine sf_getr hI0 rfl rfl ?_
  refine sf_iload rfl ?_
  refine sf_iload rfl ?_
  refine sf_iast hI0 hs0 rfl (by omega) (sf_bd _) rfl rfl (fun w2 Iw2 sw2 kw2 uw2 => ?_)
  have c3 := sf_mf kw2 (p := 60) (j := 0) rfl
  have c4 := sf_ma kw2 (p := 62) rfl
  have c5 := sf_ma kw2 (p := 65) rfl
  have c6 := sf_ma kw2 (p := 66) rfl
  clear kw2
  have u61 := uw2
  rw [show v1.toInt = (sf_f w0 60 0).toInt by omega] at u61
  skip
  refine sf_aload rfl ?_
  refine sf_getr Iw2 rfl rfl ?_
  refine sf_iload rfl ?_
  refine sf_iload rfl ?_
  refine sf_iast Iw2 sw2 rfl (by omega) (sf_bd _) rfl rfl (fun w7 Iw7 sw7 kw7 uw7 => ?_)
  have c8 := sf_mf kw7 (p := 60) (j := 0) rfl
  have c9 := sf_ma kw7 (p := 61) rfl
  have c10 := sf_ma kw7 (p := 65) rfl
  have c11 := sf_ma kw7 (p := 66) rfl
  clear kw7
  have u62 := uw7
  rw [show v1.toInt = (sf_f w0 60 0).toInt by omega] at u62
  rw [c4] at u62
  refine sf_aload rfl ?_
  refine sf_getr Iw7 rfl rfl ?_
  refine sf_iload rfl ?_
  refine sf_lload rfl ?_
  refine sf_last Iw7 sw7 rfl (by omega) rfl rfl (fun w12 Iw12 sw12 kw12 uw12 => ?_)
  have c13 := sf_mf kw12 (p := 60) (j := 0) rfl
  have c14 := sf_ma kw12 (p := 61) rfl
  have c15 := sf_ma kw12 (p := 62) rfl
  have c16 := sf_ma kw12 (p := 65) rfl
  have c17 := sf_ma kw12 (p := 66) rfl
  clear kw12 uw12
  refine sf_aload rfl ?_
  refine sf_getr Iw12 rfl rfl ?_
  refine sf_iload rfl ?_
  refine sf_iload rfl ?_
  refine sf_zast Iw12 sw12 rfl (by omega) (by omega) rfl rfl (fun w18 Iw18 sw18 kw18 uw18 => ?_)
  have c19 := sf_mf kw18 (p := 60) (j := 0) rfl
  have c20 := sf_ma kw18 (p := 61) rfl
  have c21 := sf_ma kw18 (p := 62) rfl
  have c22 := sf_ma kw18 (p := 66) rfl
  clear kw18
  have u65 := uw18
  rw [show v1.toInt = (sf_f w0 60 0).toInt by omega] at u65
  rw [c16, c10, c5] at u65
  refine sf_aload rfl ?_
  refine sf_getr Iw18 rfl rfl ?_
  refine sf_iload rfl ?_
  refine sf_iload rfl ?_
  refine sf_zast Iw18 sw18 rfl (by omega) (by omega) rfl rfl (fun w23 Iw23 sw23 kw23 uw23 => ?_)
  have c24 := sf_mf kw23 (p := 60) (j := 0) rfl
  have c25 := sf_ma kw23 (p := 61) rfl
  have c26 := sf_ma kw23 (p := 62) rfl
  have c27 := sf_ma kw23 (p := 65) rfl
  clear kw23
  have u66 := uw23
  rw [show v1.toInt = (sf_f w0 60 0).toInt by omega] at u66
  rw [c22, c17, c11, c6] at u66
  refine sf_aload rfl ?_
  refine sf_dup rfl ?_
  refine sf_geti Iw23 rfl rfl (fun v28 lv28 uv28 ev28 => ?_)
  rw [c24, c19, c13, c8, c3] at ev28
  refine sf_iconst sf_c1 (fun z29 ez29 => ?_)
  refine sf_iadd (by omega) (fun v30 ev30 => ?_)
  refine sf_puti Iw23 sw23 rfl rfl (by omega) rfl rfl rfl (fun w31 Iw31 sw31 kw31 uw31 => ?_)
  have c32 := sf_ma kw31 (p := 61) rfl
  have c33 := sf_ma kw31 (p := 62) rfl
  have c34 := sf_ma kw31 (p := 65) rfl
  have c35 := sf_ma kw31 (p := 66) rfl
  clear kw31
  refine sf_iload rfl ?_
  refine sf_ireturn rfl rfl ?_
  exact hR _ _ Iw31 sw31 (by omega) (by omega) (by rw [uw31]; omega) (by rw [c32, c25, c20, c14, c9]; exact u61) (by rw [c33, c26, c21, c15]; exact u62) (by rw [c34, c27]; exact u65) (by rw [c35]; exact u66) (by omega)
def sm_A_greatestRemainder : List Nat := []
set_option maxRecDepth 100000 in
set_option maxHeartbeats 4000000 in
theorem sc_A_greatestRemainder {w0 : wq_W} (hI0 : sf_I w0) {rt : Option wq_V → wq_W → Prop} {xt : Nat → wq_W → Prop} {a_lines : Int32} (p0 : 0 ≤ a_lines.toInt) (p1 : a_lines.toInt ≤ 4) (hR : ∀ (r : Int32), 0 ≤ r.toInt → r.toInt ≤ 3 → rt (some (.inl (.int r))) w0) : ks_A_greatestRemainder [.inl (.ref 51), .inl (.int a_lines)] w0 rt xt := by
  have hl : ∀ n : Nat, (∀ (x2 : Int32) (x3 : Int32), (0 ≤ x2.toInt) → (x2.toInt ≤ 3) → (1 ≤ x3.toInt) → (x3.toInt ≤ 4) → (4 - x3.toInt < (n : Int)) → ku_A_greatestRemainder rt xt n 4 [(0, .inl (.ref 51)), (1, .inl (.int a_lines)), (2, .inl (.int x2)), (3, .inl (.int x3))] [] w0 0 0) := by
    intro n
    induction n with
    | zero =>
      refine ?_
      · intros; omega
    | succ n ih =>
      have i_4 := ih
      intro x2 x3 l_x2 u_x2 l_x3 u_x3 hm
      show kh_A_greatestRemainder_4 rt xt (ku_A_greatestRemainder rt xt n) [(0, .inl (.ref 51)), (1, .inl (.int a_lines)), (2, .inl (.int x2)), (3, .inl (.int x3))] [] w0 0 0
      generalize ku_A_greatestRemainder rt xt n = K at i_4 ⊢
      refine sf_iload rfl ?_
      refine sf_iload rfl ?_
      refine sf_f2_ge (fun h1 => ?_) (fun h1 => ?_)
      · refine sf_iload rfl ?_
        refine sf_ireturn rfl rfl ?_
        exact hR _ (by omega) (by omega) 
      · refine sf_aload rfl ?_
        refine sf_getr hI0 rfl rfl ?_
        refine sf_iload rfl ?_
        refine sf_lald hI0 rfl (by omega) (fun v2 ev2 => ?_)
        clear ev2
        refine sf_aload rfl ?_
        refine sf_getr hI0 rfl rfl ?_
        refine sf_iload rfl ?_
        refine sf_lald hI0 rfl (by omega) (fun v3 ev3 => ?_)
        clear ev3
        refine sf_fl_le (fun h4 => ?_) (fun h4 => ?_)
        · refine sf_iinc (L' := [(0, .inl (.ref 51)), (1, .inl (.int a_lines)), (2, .inl (.int x2))]) sf_c1 rfl rfl (by omega) (fun v5 ev5 => ?_)
          refine sf_can (L' := [(0, .inl (.ref 51)), (1, .inl (.int a_lines)), (2, .inl (.int x2)), (3, .inl (.int v5))]) rfl ?_
          exact i_4 x2 v5 (by omega) (by omega) (by omega) (by omega) (by omega)
        · refine sf_iload rfl ?_
          refine sf_istore (L' := [(0, .inl (.ref 51)), (1, .inl (.int a_lines)), (3, .inl (.int x3))]) rfl ?_
          refine sf_iinc (L' := [(2, .inl (.int x3)), (0, .inl (.ref 51)), (1, .inl (.int a_lines))]) sf_c1 rfl rfl (by omega) (fun v6 ev6 => ?_)
          refine sf_can (L' := [(0, .inl (.ref 51)), (1, .inl (.int a_lines)), (2, .inl (.int x3)), (3, .inl (.int v6))]) rfl ?_
          exact i_4 x3 v6 (by omega) (by omega) (by omega) (by omega) (by omega)
  have hl1 := hl 1000000000000
  have i_4 := hl1
  clear hl hl1
  refine sf_sp (L := [(0, .inl (.ref 51)), (1, .inl (.int a_lines))]) rfl rfl ?_
  generalize ku_A_greatestRemainder rt xt 1000000000000 = K at i_4 ⊢
  refine sf_iconst sf_c0 (fun z7 ez7 => ?_)
  refine sf_istore (L' := [(0, .inl (.ref 51)), (1, .inl (.int a_lines))]) rfl ?_
  refine sf_iconst sf_c1 (fun z8 ez8 => ?_)
  refine sf_istore (L' := [(2, .inl (.int z7)), (0, .inl (.ref 51)), (1, .inl (.int a_lines))]) rfl ?_
  refine sf_can (L' := [(0, .inl (.ref 51)), (1, .inl (.int a_lines)), (2, .inl (.int z7)), (3, .inl (.int z8))]) rfl ?_
  exact i_4 z7 z8 (by omega) (by omega) (by omega) (by omega) (by omega)
def sm_A_findWeights_45 : List Nat := [58]
set_option maxRecDepth 100000 in
set_option maxHeartbeats 4000000 in
theorem sc_A_findWeights_45 {w0 : wq_W} (hI0 : sf_I w0) {rt : Option wq_V → wq_W → Prop} {xt : Nat → wq_W → Prop} {a_declaration : Int32} (p0 : 0 ≤ a_declaration.toInt) (p1 : a_declaration.toInt ≤ 11) (hR : ∀ (r : Int64) (w : wq_W), sf_I w → sf_m sm_A_findWeights_45 w0 w → rt (some (.inl (.long r))) w) : ks_A_findWeights [.inl (.ref 51), .inl (.int a_declaration), .inl (.ref 45)] w0 rt xt := by
  have hs0 : sf_m sm_A_findWeights_45 w0 w0 := sf_m0
  have hl : ∀ n : Nat, (∀ (w : wq_W) (x3 : Int32) (x4 : Int64) (x6 : Int32), (sf_I w) → (sf_m sm_A_findWeights_45 w0 w) → (0 ≤ x3.toInt) → (x3.toInt ≤ 4) → (0 ≤ x6.toInt) → (x6.toInt ≤ 4) → (10 - x6.toInt < (n : Int)) → ku_A_findWeights rt xt n 16 [(0, .inl (.ref 51)), (1, .inl (.int a_declaration)), (2, .inl (.ref 45)), (3, .inl (.int x3)), (4, .inl (.long x4)), (6, .inl (.int x6))] [] w 0 0) ∧ (∀ (w : wq_W) (x3 : Int32) (x6 : Int32), (sf_I w) → (sf_m sm_A_findWeights_45 w0 w) → (0 ≤ x3.toInt) → (x3.toInt ≤ 4) → (0 ≤ x6.toInt) → (x6.toInt ≤ 4) → (4 - x6.toInt < (n : Int)) → ku_A_findWeights rt xt n 69 [(0, .inl (.ref 51)), (3, .inl (.int x3)), (6, .inl (.int x6))] [] w 0 0) := by
    intro n
    induction n with
    | zero =>
      refine ⟨?_, ?_⟩
      · intros; omega
      · intros; omega
    | succ n ih =>
      obtain ⟨i_16, i_69⟩ := ih
      refine ⟨?_, ?_⟩
      · intro w x3 x4 x6 I_w s_w l_x3 u_x3 l_x6 u_x6 hm
        show kh_A_findWeights_16 rt xt (ku_A_findWeights rt xt n) [(0, .inl (.ref 51)), (1, .inl (.int a_declaration)), (2, .inl (.ref 45)), (3, .inl (.int x3)), (4, .inl (.long x4)), (6, .inl (.int x6))] [] w 0 0
        generalize ku_A_findWeights rt xt n = K at i_16 i_69 ⊢
        refine sf_iload rfl ?_
        refine sf_iload rfl ?_
        refine sf_f2_ge (fun h1 => ?_) (fun h1 => ?_)
        · refine sf_lload rfl ?_
          refine sf_lconst (by decide : (0 : Int64).toInt = 0) (fun z2 ez2 => ?_)
          refine sf_fl_le (fun h3 => ?_) (fun h3 => ?_)
          · refine sf_iconst sf_c0 (fun z4 ez4 => ?_)
            refine sf_istore (L' := [(0, .inl (.ref 51)), (1, .inl (.int a_declaration)), (2, .inl (.ref 45)), (3, .inl (.int x3)), (4, .inl (.long x4))]) rfl ?_
            refine sf_can (L' := [(0, .inl (.ref 51)), (3, .inl (.int x3)), (6, .inl (.int z4))]) rfl ?_
            exact i_69 w x3 z4 I_w s_w (by omega) (by omega) (by omega) (by omega) (by omega)
          · refine sf_lload rfl ?_
            refine sf_lreturn rfl rfl ?_
            exact hR _ _ I_w s_w 
        · refine sf_aload rfl ?_
          refine sf_getr I_w rfl rfl ?_
          refine sf_iload rfl ?_
          refine sf_aload rfl ?_
          refine sf_iload rfl ?_
          refine sf_iload rfl ?_
          refine sf_call2 rfl rfl rfl ?_
          refine sf_sp (L := [(0, .inl (.int a_declaration)), (1, .inl (.int x6))]) rfl rfl ?_
          refine sf_iload rfl ?_
          refine sf_iconst sf_c4 (fun z5 ez5 => ?_)
          refine sf_imulr (n := 4) (by omega) (by omega) (fun v6 ev6 => ?_)
          refine sf_iload rfl ?_
          refine sf_iadd (by omega) (fun v7 ev7 => ?_)
          refine sf_ireturn rfl rfl ?_
          refine sf_iald I_w rfl (by omega) (fun v8 lv8 uv8 ev8 => ?_)
          clear lv8 uv8
          clear ev8
          refine sf_i2lb (fun v9 ev9 lv9 uv9 => ?_)
          refine sf_last I_w s_w rfl (by omega) rfl rfl (fun w10 Iw10 sw10 kw10 uw10 => ?_)
          clear kw10 uw10
          refine sf_lload rfl ?_
          refine sf_aload rfl ?_
          refine sf_getr Iw10 rfl rfl ?_
          refine sf_iload rfl ?_
          refine sf_lald Iw10 rfl (by omega) (fun v11 ev11 => ?_)
          clear ev11
          refine sf_l2 (fun v12 => ?_)
          refine sf_lstore (L' := [(0, .inl (.ref 51)), (1, .inl (.int a_declaration)), (2, .inl (.ref 45)), (3, .inl (.int x3)), (6, .inl (.int x6))]) rfl ?_
          refine sf_iinc (L' := [(4, .inl (.long v12)), (0, .inl (.ref 51)), (1, .inl (.int a_declaration)), (2, .inl (.ref 45)), (3, .inl (.int x3))]) sf_c1 rfl rfl (by omega) (fun v13 ev13 => ?_)
          refine sf_can (L' := [(0, .inl (.ref 51)), (1, .inl (.int a_declaration)), (2, .inl (.ref 45)), (3, .inl (.int x3)), (4, .inl (.long v12)), (6, .inl (.int v13))]) rfl ?_
          exact i_16 w10 x3 v12 v13 Iw10 sw10 (by omega) (by omega) (by omega) (by omega) (by omega)
      · intro w x3 x6 I_w s_w l_x3 u_x3 l_x6 u_x6 hm
        show kh_A_findWeights_69 rt xt (ku_A_findWeights rt xt n) [(0, .inl (.ref 51)), (3, .inl (.int x3)), (6, .inl (.int x6))] [] w 0 0
        generalize ku_A_findWeights rt xt n = K at i_16 i_69 ⊢
        refine sf_iload rfl ?_
        refine sf_iload rfl ?_
        refine sf_f2_ge (fun h14 => ?_) (fun h14 => ?_)
        · refine sf_iload rfl ?_
          refine sf_i2l (fun v15 ev15 => ?_)
          refine sf_lreturn rfl rfl ?_
          exact hR _ _ I_w s_w 
        · refine sf_aload rfl ?_
          refine sf_getr I_w rfl rfl ?_
          refine sf_iload rfl ?_
          refine sf_lconst (by decide : (1 : Int64).toInt = 1) (fun z16 ez16 => ?_)
          refine sf_last I_w s_w rfl (by omega) rfl rfl (fun w17 Iw17 sw17 kw17 uw17 => ?_)
          clear kw17 uw17
          refine sf_iinc (L' := [(0, .inl (.ref 51)), (3, .inl (.int x3))]) sf_c1 rfl rfl (by omega) (fun v18 ev18 => ?_)
          refine sf_can (L' := [(0, .inl (.ref 51)), (3, .inl (.int x3)), (6, .inl (.int v18))]) rfl ?_
          exact i_69 w17 x3 v18 Iw17 sw17 (by omega) (by omega) (by omega) (by omega) (by omega)
  have hl1 := hl 1000000000000
  obtain ⟨i_16, i_69⟩ := hl1
  clear hl
  refine sf_sp (L := [(0, .inl (.ref 51)), (1, .inl (.int a_declaration)), (2, .inl (.ref 45))]) rfl rfl ?_
  generalize ku_A_findWeights rt xt 1000000000000 = K at i_16 i_69 ⊢
  refine sf_aload rfl ?_
  refine sf_getr hI0 rfl rfl ?_
  refine sf_getr hI0 rfl rfl ?_
  refine sf_iload rfl ?_
  refine sf_iald hI0 rfl (by omega) (fun v19 lv19 uv19 ev19 => ?_)
  refine sf_istore (L' := [(0, .inl (.ref 51)), (1, .inl (.int a_declaration)), (2, .inl (.ref 45))]) rfl ?_
  refine sf_lconst (by decide : (0 : Int64).toInt = 0) (fun z20 ez20 => ?_)
  refine sf_lstore (L' := [(3, .inl (.int v19)), (0, .inl (.ref 51)), (1, .inl (.int a_declaration)), (2, .inl (.ref 45))]) rfl ?_
  refine sf_iconst sf_c0 (fun z21 ez21 => ?_)
  refine sf_istore (L' := [(4, .inl (.long z20)), (3, .inl (.int v19)), (0, .inl (.ref 51)), (1, .inl (.int a_declaration)), (2, .inl (.ref 45))]) rfl ?_
  refine sf_can (L' := [(0, .inl (.ref 51)), (1, .inl (.int a_declaration)), (2, .inl (.ref 45)), (3, .inl (.int v19)), (4, .inl (.long z20)), (6, .inl (.int z21))]) rfl ?_
  exact i_16 w0 v19 z20 z21 hI0 hs0 (by omega) (by omega) (by omega) (by omega) (by omega)
def sm_A_findWeights_46 : List Nat := [58]
set_option maxRecDepth 100000 in
set_option maxHeartbeats 4000000 in
theorem sc_A_findWeights_46 {w0 : wq_W} (hI0 : sf_I w0) {rt : Option wq_V → wq_W → Prop} {xt : Nat → wq_W → Prop} {a_declaration : Int32} (p0 : 0 ≤ a_declaration.toInt) (p1 : a_declaration.toInt ≤ 11) (hR : ∀ (r : Int64) (w : wq_W), sf_I w → sf_m sm_A_findWeights_46 w0 w → rt (some (.inl (.long r))) w) : ks_A_findWeights [.inl (.ref 51), .inl (.int a_declaration), .inl (.ref 46)] w0 rt xt := by
  have hs0 : sf_m sm_A_findWeights_46 w0 w0 := sf_m0
  have hl : ∀ n : Nat, (∀ (w : wq_W) (x3 : Int32) (x4 : Int64) (x6 : Int32), (sf_I w) → (sf_m sm_A_findWeights_46 w0 w) → (0 ≤ x3.toInt) → (x3.toInt ≤ 4) → (0 ≤ x6.toInt) → (x6.toInt ≤ 4) → (10 - x6.toInt < (n : Int)) → ku_A_findWeights rt xt n 16 [(0, .inl (.ref 51)), (1, .inl (.int a_declaration)), (2, .inl (.ref 46)), (3, .inl (.int x3)), (4, .inl (.long x4)), (6, .inl (.int x6))] [] w 0 0) ∧ (∀ (w : wq_W) (x3 : Int32) (x6 : Int32), (sf_I w) → (sf_m sm_A_findWeights_46 w0 w) → (0 ≤ x3.toInt) → (x3.toInt ≤ 4) → (0 ≤ x6.toInt) → (x6.toInt ≤ 4) → (4 - x6.toInt < (n : Int)) → ku_A_findWeights rt xt n 69 [(0, .inl (.ref 51)), (3, .inl (.int x3)), (6, .inl (.int x6))] [] w 0 0) := by
    intro n
    induction n with
    | zero =>
      refine ⟨?_, ?_⟩
      · intros; omega
      · intros; omega
    | succ n ih =>
      obtain ⟨i_16, i_69⟩ := ih
      refine ⟨?_, ?_⟩
      · intro w x3 x4 x6 I_w s_w l_x3 u_x3 l_x6 u_x6 hm
        show kh_A_findWeights_16 rt xt (ku_A_findWeights rt xt n) [(0, .inl (.ref 51)), (1, .inl (.int a_declaration)), (2, .inl (.ref 46)), (3, .inl (.int x3)), (4, .inl (.long x4)), (6, .inl (.int x6))] [] w 0 0
        generalize ku_A_findWeights rt xt n = K at i_16 i_69 ⊢
        refine sf_iload rfl ?_
        refine sf_iload rfl ?_
        refine sf_f2_ge (fun h1 => ?_) (fun h1 => ?_)
        · refine sf_lload rfl ?_
          refine sf_lconst (by decide : (0 : Int64).toInt = 0) (fun z2 ez2 => ?_)
          refine sf_fl_le (fun h3 => ?_) (fun h3 => ?_)
          · refine sf_iconst sf_c0 (fun z4 ez4 => ?_)
            refine sf_istore (L' := [(0, .inl (.ref 51)), (1, .inl (.int a_declaration)), (2, .inl (.ref 46)), (3, .inl (.int x3)), (4, .inl (.long x4))]) rfl ?_
            refine sf_can (L' := [(0, .inl (.ref 51)), (3, .inl (.int x3)), (6, .inl (.int z4))]) rfl ?_
            exact i_69 w x3 z4 I_w s_w (by omega) (by omega) (by omega) (by omega) (by omega)
          · refine sf_lload rfl ?_
            refine sf_lreturn rfl rfl ?_
            exact hR _ _ I_w s_w 
        · refine sf_aload rfl ?_
          refine sf_getr I_w rfl rfl ?_
          refine sf_iload rfl ?_
          refine sf_aload rfl ?_
          refine sf_iload rfl ?_
          refine sf_iload rfl ?_
          refine sf_call2 rfl rfl rfl ?_
          refine sf_sp (L := [(0, .inl (.int a_declaration)), (1, .inl (.int x6))]) rfl rfl ?_
          refine sf_iload rfl ?_
          refine sf_iconst sf_c4 (fun z5 ez5 => ?_)
          refine sf_imulr (n := 4) (by omega) (by omega) (fun v6 ev6 => ?_)
          refine sf_iload rfl ?_
          refine sf_iadd (by omega) (fun v7 ev7 => ?_)
          refine sf_ireturn rfl rfl ?_
          refine sf_iald I_w rfl (by omega) (fun v8 lv8 uv8 ev8 => ?_)
          clear lv8 uv8
          clear ev8
          refine sf_i2lb (fun v9 ev9 lv9 uv9 => ?_)
          refine sf_last I_w s_w rfl (by omega) rfl rfl (fun w10 Iw10 sw10 kw10 uw10 => ?_)
          clear kw10 uw10
          refine sf_lload rfl ?_
          refine sf_aload rfl ?_
          refine sf_getr Iw10 rfl rfl ?_
          refine sf_iload rfl ?_
          refine sf_lald Iw10 rfl (by omega) (fun v11 ev11 => ?_)
          clear ev11
          refine sf_l2 (fun v12 => ?_)
          refine sf_lstore (L' := [(0, .inl (.ref 51)), (1, .inl (.int a_declaration)), (2, .inl (.ref 46)), (3, .inl (.int x3)), (6, .inl (.int x6))]) rfl ?_
          refine sf_iinc (L' := [(4, .inl (.long v12)), (0, .inl (.ref 51)), (1, .inl (.int a_declaration)), (2, .inl (.ref 46)), (3, .inl (.int x3))]) sf_c1 rfl rfl (by omega) (fun v13 ev13 => ?_)
          refine sf_can (L' := [(0, .inl (.ref 51)), (1, .inl (.int a_declaration)), (2, .inl (.ref 46)), (3, .inl (.int x3)), (4, .inl (.long v12)), (6, .inl (.int v13))]) rfl ?_
          exact i_16 w10 x3 v12 v13 Iw10 sw10 (by omega) (by omega) (by omega) (by omega) (by omega)
      · intro w x3 x6 I_w s_w l_x3 u_x3 l_x6 u_x6 hm
        show kh_A_findWeights_69 rt xt (ku_A_findWeights rt xt n) [(0, .inl (.ref 51)), (3, .inl (.int x3)), (6, .inl (.int x6))] [] w 0 0
        generalize ku_A_findWeights rt xt n = K at i_16 i_69 ⊢
        refine sf_iload rfl ?_
        refine sf_iload rfl ?_
        refine sf_f2_ge (fun h14 => ?_) (fun h14 => ?_)
        · refine sf_iload rfl ?_
          refine sf_i2l (fun v15 ev15 => ?_)
          refine sf_lreturn rfl rfl ?_
          exact hR _ _ I_w s_w 
        · refine sf_aload rfl ?_
          refine sf_getr I_w rfl rfl ?_
          refine sf_iload rfl ?_
          refine sf_lconst (by decide : (1 : Int64).toInt = 1) (fun z16 ez16 => ?_)
          refine sf_last I_w s_w rfl (by omega) rfl rfl (fun w17 Iw17 sw17 kw17 uw17 => ?_)
          clear kw17 uw17
          refine sf_iinc (L' := [(0, .inl (.ref 51)), (3, .inl (.int x3))]) sf_c1 rfl rfl (by omega) (fun v18 ev18 => ?_)
          refine sf_can (L' := [(0, .inl (.ref 51)), (3, .inl (.int x3)), (6, .inl (.int v18))]) rfl ?_
          exact i_69 w17 x3 v18 Iw17 sw17 (by omega) (by omega) (by omega) (by omega) (by omega)
  have hl1 := hl 1000000000000
  obtain ⟨i_16, i_69⟩ := hl1
  clear hl
  refine sf_sp (L := [(0, .inl (.ref 51)), (1, .inl (.int a_declaration)), (2, .inl (.ref 46))]) rfl rfl ?_
  generalize ku_A_findWeights rt xt 1000000000000 = K at i_16 i_69 ⊢
  refine sf_aload rfl ?_
  refine sf_getr hI0 rfl rfl ?_
  refine sf_getr hI0 rfl rfl ?_
  refine sf_iload rfl ?_
  refine sf_iald hI0 rfl (by omega) (fun v19 lv19 uv19 ev19 => ?_)
  refine sf_istore (L' := [(0, .inl (.ref 51)), (1, .inl (.int a_declaration)), (2, .inl (.ref 46))]) rfl ?_
  refine sf_lconst (by decide : (0 : Int64).toInt = 0) (fun z20 ez20 => ?_)
  refine sf_lstore (L' := [(3, .inl (.int v19)), (0, .inl (.ref 51)), (1, .inl (.int a_declaration)), (2, .inl (.ref 46))]) rfl ?_
  refine sf_iconst sf_c0 (fun z21 ez21 => ?_)
  refine sf_istore (L' := [(4, .inl (.long z20)), (3, .inl (.int v19)), (0, .inl (.ref 51)), (1, .inl (.int a_declaration)), (2, .inl (.ref 46))]) rfl ?_
  refine sf_can (L' := [(0, .inl (.ref 51)), (1, .inl (.int a_declaration)), (2, .inl (.ref 46)), (3, .inl (.int v19)), (4, .inl (.long z20)), (6, .inl (.int z21))]) rfl ?_
  exact i_16 w0 v19 z20 z21 hI0 hs0 (by omega) (by omega) (by omega) (by omega) (by omega)
def sm_A_spread_45 : List Nat := [54, 58, 59]
set_option maxRecDepth 100000 in
set_option maxHeartbeats 4000000 in
theorem sc_A_spread_45 {w0 : wq_W} (hI0 : sf_I w0) {rt : Option wq_V → wq_W → Prop} {xt : Nat → wq_W → Prop} {a_declaration : Int32} {a_by : Int32} (p0 : 0 ≤ a_declaration.toInt) (p1 : a_declaration.toInt ≤ 11) (p2 : 0 ≤ a_by.toInt) (p3 : a_by.toInt ≤ 1) (hR : ∀ (w : wq_W), sf_I w → sf_m sm_A_spread_45 w0 w → rt none w) : ks_A_spread [.inl (.ref 51), .inl (.int a_declaration), .inl (.int a_by), .inl (.ref 45)] w0 rt xt := by
  have hs0 : sf_m sm_A_spread_45 w0 w0 := sf_m0
  have hl : ∀ n : Nat, (∀ (w : wq_W) (x4 : Int32) (x5 : Int64) (x7 : Int64) (x9 : Int64) (x11 : Int32), (sf_I w) → (sf_m sm_A_spread_45 w0 w) → (0 ≤ x4.toInt) → (x4.toInt ≤ 4) → (0 ≤ x11.toInt) → (x11.toInt ≤ 4) → (20 - x11.toInt < (n : Int)) → ku_A_spread rt xt n 40 [(0, .inl (.ref 51)), (4, .inl (.int x4)), (5, .inl (.long x5)), (7, .inl (.long x7)), (9, .inl (.long x9)), (11, .inl (.int x11))] [] w 0 0) ∧ (∀ (w : wq_W) (x4 : Int32) (x9 : Int64) (x11 : Int32), (sf_I w) → (sf_m sm_A_spread_45 w0 w) → (0 ≤ x4.toInt) → (x4.toInt ≤ 4) → (0 ≤ x11.toInt) → (x11.toInt ≤ 4) → (4 - x11.toInt < (n : Int)) → ku_A_spread rt xt n 112 [(0, .inl (.ref 51)), (4, .inl (.int x4)), (9, .inl (.long x9)), (11, .inl (.int x11))] [] w 0 0) := by
    intro n
    induction n with
    | zero =>
      refine ⟨?_, ?_⟩
      · intros; omega
      · intros; omega
    | succ n ih =>
      obtain ⟨i_40, i_112⟩ := ih
      refine ⟨?_, ?_⟩
      · intro w x4 x5 x7 x9 x11 I_w s_w l_x4 u_x4 l_x11 u_x11 hm
        show kh_A_spread_40 rt xt (ku_A_spread rt xt n) [(0, .inl (.ref 51)), (4, .inl (.int x4)), (5, .inl (.long x5)), (7, .inl (.long x7)), (9, .inl (.long x9)), (11, .inl (.int x11))] [] w 0 0
        generalize ku_A_spread rt xt n = K at i_40 i_112 ⊢
        refine sf_iload rfl ?_
        refine sf_iload rfl ?_
        refine sf_f2_ge (fun h1 => ?_) (fun h1 => ?_)
        · refine sf_iconst sf_c0 (fun z2 ez2 => ?_)
          refine sf_istore (L' := [(0, .inl (.ref 51)), (4, .inl (.int x4)), (5, .inl (.long x5)), (7, .inl (.long x7)), (9, .inl (.long x9))]) rfl ?_
          refine sf_can (L' := [(0, .inl (.ref 51)), (4, .inl (.int x4)), (9, .inl (.long x9)), (11, .inl (.int z2))]) rfl ?_
          exact i_112 w x4 x9 z2 I_w s_w (by omega) (by omega) (by omega) (by omega) (by omega)
        · refine sf_lload rfl ?_
          refine sf_lconst (by decide : (0 : Int64).toInt = 0) (fun z3 ez3 => ?_)
          refine sf_fl_le (fun h4 => ?_) (fun h4 => ?_)
          · refine sf_iconst sf_c0 (fun z5 ez5 => ?_)
            refine sf_istore (L' := [(0, .inl (.ref 51)), (4, .inl (.int x4)), (5, .inl (.long x5)), (7, .inl (.long x7)), (9, .inl (.long x9))]) rfl ?_
            refine sf_can (L' := [(0, .inl (.ref 51)), (4, .inl (.int x4)), (9, .inl (.long x9)), (11, .inl (.int z5))]) rfl ?_
            exact i_112 w x4 x9 z5 I_w s_w (by omega) (by omega) (by omega) (by omega) (by omega)
          · refine sf_lload rfl ?_
            refine sf_aload rfl ?_
            refine sf_getr I_w rfl rfl ?_
            refine sf_iload rfl ?_
            refine sf_lald I_w rfl (by omega) (fun v6 ev6 => ?_)
            clear ev6
            refine sf_l2 (fun v7 => ?_)
            refine sf_lstore (L' := [(0, .inl (.ref 51)), (4, .inl (.int x4)), (5, .inl (.long x5)), (7, .inl (.long x7)), (9, .inl (.long x9)), (11, .inl (.int x11))]) rfl ?_
            refine sf_aload rfl ?_
            refine sf_getr I_w rfl rfl ?_
            refine sf_iload rfl ?_
            refine sf_dup2 rfl rfl ?_
            refine sf_lald I_w rfl (by omega) (fun v8 ev8 => ?_)
            clear ev8
            refine sf_lload rfl ?_
            refine sf_lload rfl ?_
            refine sf_l2d (by omega) (fun v9 => ?_)
            refine sf_l2 (fun v10 => ?_)
            refine sf_last I_w s_w rfl (by omega) rfl rfl (fun w11 Iw11 sw11 kw11 uw11 => ?_)
            clear kw11 uw11
            refine sf_lload rfl ?_
            refine sf_lload rfl ?_
            refine sf_lload rfl ?_
            refine sf_l2d (by omega) (fun v12 => ?_)
            refine sf_l2 (fun v13 => ?_)
            refine sf_lstore (L' := [(12, .inl (.long v7)), (0, .inl (.ref 51)), (4, .inl (.int x4)), (5, .inl (.long x5)), (7, .inl (.long x7)), (11, .inl (.int x11))]) rfl ?_
            refine sf_aload rfl ?_
            refine sf_getr Iw11 rfl rfl ?_
            refine sf_iload rfl ?_
            refine sf_lload rfl ?_
            refine sf_lload rfl ?_
            refine sf_l2d (by omega) (fun v14 => ?_)
            refine sf_last Iw11 sw11 rfl (by omega) rfl rfl (fun w15 Iw15 sw15 kw15 uw15 => ?_)
            clear kw15 uw15
            refine sf_iinc (L' := [(9, .inl (.long v13)), (12, .inl (.long v7)), (0, .inl (.ref 51)), (4, .inl (.int x4)), (5, .inl (.long x5)), (7, .inl (.long x7))]) sf_c1 rfl rfl (by omega) (fun v16 ev16 => ?_)
            refine sf_can (L' := [(0, .inl (.ref 51)), (4, .inl (.int x4)), (5, .inl (.long x5)), (7, .inl (.long x7)), (9, .inl (.long v13)), (11, .inl (.int v16))]) rfl ?_
            exact i_40 w15 x4 x5 x7 v13 v16 Iw15 sw15 (by omega) (by omega) (by omega) (by omega) (by omega)
      · intro w x4 x9 x11 I_w s_w l_x4 u_x4 l_x11 u_x11 hm
        show kh_A_spread_112 rt xt (ku_A_spread rt xt n) [(0, .inl (.ref 51)), (4, .inl (.int x4)), (9, .inl (.long x9)), (11, .inl (.int x11))] [] w 0 0
        generalize ku_A_spread rt xt n = K at i_40 i_112 ⊢
        refine sf_iload rfl ?_
        refine sf_iload rfl ?_
        refine sf_f2_ge (fun h17 => ?_) (fun h17 => ?_)
        · refine sf_vreturn rfl rfl ?_
          exact hR _ I_w s_w 
        · refine sf_iload rfl ?_
          refine sf_i2l (fun v18 ev18 => ?_)
          refine sf_lload rfl ?_
          refine sf_fl_ge (fun h19 => ?_) (fun h19 => ?_)
          · refine sf_vreturn rfl rfl ?_
            exact hR _ I_w s_w 
          · refine sf_aload rfl ?_
            refine sf_iload rfl ?_
            refine sf_call2 rfl rfl rfl ?_
            refine sf_rv I_w rfl ?_
            refine sc_A_greatestRemainder I_w (by omega) (by omega) (fun v20 lv20 uv20 => ?_)
            refine sf_istore (L' := [(0, .inl (.ref 51)), (4, .inl (.int x4)), (9, .inl (.long x9)), (11, .inl (.int x11))]) rfl ?_
            refine sf_aload rfl ?_
            refine sf_getr I_w rfl rfl ?_
            refine sf_iload rfl ?_
            refine sf_dup2 rfl rfl ?_
            refine sf_lald I_w rfl (by omega) (fun v22 ev22 => ?_)
            clear ev22
            refine sf_lconst (by decide : (1 : Int64).toInt = 1) (fun z23 ez23 => ?_)
            refine sf_l2 (fun v24 => ?_)
            refine sf_last I_w s_w rfl (by omega) rfl rfl (fun w25 Iw25 sw25 kw25 uw25 => ?_)
            clear kw25 uw25
            refine sf_aload rfl ?_
            refine sf_getr Iw25 rfl rfl ?_
            refine sf_iload rfl ?_
            refine sf_lconst (by decide : (-1 : Int64).toInt = -1) (fun z26 ez26 => ?_)
            refine sf_last Iw25 sw25 rfl (by omega) rfl rfl (fun w27 Iw27 sw27 kw27 uw27 => ?_)
            clear kw27 uw27
            refine sf_iinc (L' := [(12, .inl (.int v20)), (0, .inl (.ref 51)), (4, .inl (.int x4)), (9, .inl (.long x9))]) sf_c1 rfl rfl (by omega) (fun v28 ev28 => ?_)
            refine sf_can (L' := [(0, .inl (.ref 51)), (4, .inl (.int x4)), (9, .inl (.long x9)), (11, .inl (.int v28))]) rfl ?_
            exact i_112 w27 x4 x9 v28 Iw27 sw27 (by omega) (by omega) (by omega) (by omega) (by omega)
  have hl1 := hl 1000000000000
  obtain ⟨i_40, i_112⟩ := hl1
  clear hl
  refine sf_sp (L := [(0, .inl (.ref 51)), (1, .inl (.int a_declaration)), (2, .inl (.int a_by)), (3, .inl (.ref 45))]) rfl rfl ?_
  generalize ku_A_spread rt xt 1000000000000 = K at i_40 i_112 ⊢
  refine sf_aload rfl ?_
  refine sf_getr hI0 rfl rfl ?_
  refine sf_getr hI0 rfl rfl ?_
  refine sf_iload rfl ?_
  refine sf_iald hI0 rfl (by omega) (fun v29 lv29 uv29 ev29 => ?_)
  refine sf_istore (L' := [(0, .inl (.ref 51)), (1, .inl (.int a_declaration)), (2, .inl (.int a_by)), (3, .inl (.ref 45))]) rfl ?_
  refine sf_aload rfl ?_
  refine sf_getr hI0 rfl rfl ?_
  refine sf_getr hI0 rfl rfl ?_
  refine sf_iload rfl ?_
  refine sf_aald hI0 rfl (by omega) ?_
  refine sf_iload rfl ?_
  refine sf_gald hI0 rfl (by omega) (by omega) (fun v30 lv30 uv30 ev30 => ?_)
  clear ev30
  refine sf_i2lb (fun v31 ev31 lv31 uv31 => ?_)
  refine sf_lstore (L' := [(4, .inl (.int v29)), (0, .inl (.ref 51)), (1, .inl (.int a_declaration)), (2, .inl (.int a_by)), (3, .inl (.ref 45))]) rfl ?_
  refine sf_aload rfl ?_
  refine sf_iload rfl ?_
  refine sf_aload rfl ?_
  refine sf_call3 rfl rfl rfl ?_
  refine sf_rv hI0 rfl ?_
  refine sc_A_findWeights_45 hI0 (by omega) (by omega) (fun v32 w33 Iw33 tw33 => ?_)
  have s35 := sf_mt hs0 tw33 rfl
  refine sf_lstore (L' := [(5, .inl (.long v31)), (4, .inl (.int v29)), (0, .inl (.ref 51)), (1, .inl (.int a_declaration)), (2, .inl (.int a_by)), (3, .inl (.ref 45))]) rfl ?_
  refine sf_lload rfl ?_
  refine sf_lstore (L' := [(7, .inl (.long v32)), (5, .inl (.long v31)), (4, .inl (.int v29)), (0, .inl (.ref 51)), (1, .inl (.int a_declaration)), (2, .inl (.int a_by)), (3, .inl (.ref 45))]) rfl ?_
  refine sf_iconst sf_c0 (fun z36 ez36 => ?_)
  refine sf_istore (L' := [(9, .inl (.long v31)), (7, .inl (.long v32)), (5, .inl (.long v31)), (4, .inl (.int v29)), (0, .inl (.ref 51)), (1, .inl (.int a_declaration)), (2, .inl (.int a_by)), (3, .inl (.ref 45))]) rfl ?_
  refine sf_can (L' := [(0, .inl (.ref 51)), (4, .inl (.int v29)), (5, .inl (.long v31)), (7, .inl (.long v32)), (9, .inl (.long v31)), (11, .inl (.int z36))]) rfl ?_
  exact i_40 w33 v29 v31 v32 v31 z36 Iw33 s35 (by omega) (by omega) (by omega) (by omega) (by omega)
