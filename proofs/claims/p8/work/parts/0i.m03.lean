def sm_M_spread : List Nat := [111, 112]
set_option maxRecDepth 100000 in
set_option maxHeartbeats 4000000 in
theorem sc_M_spread {w0 : wq_W} (hI0 : sf_I w0) {rt : Option wq_V → wq_W → Prop} {xt : Nat → wq_W → Prop} {a_d : Int32} {a_by : Int32} (p0 : 0 ≤ a_d.toInt) (p1 : a_d.toInt ≤ 11) (p2 : 0 ≤ a_by.toInt) (p3 : a_by.toInt ≤ 1) (p4 : 0 < (sf_a w0 104 a_d.toInt.toNat).toInt) (hR : ∀ (w : wq_W), sf_I w → sf_m sm_M_spread w0 w → rt none w) : ks_M_spread [.inl (.ref 71), .inl (.int a_d), .inl (.int a_by)] w0 rt xt := by
  have hs0 : sf_m sm_M_spread w0 w0 := sf_m0
  have hl : ∀ n : Nat, (∀ (w : wq_W) (x3 : Int64) (x5 : Int32), (sf_I w) → (sf_m sm_M_spread w0 w) → (0 ≤ x5.toInt) → (x5.toInt ≤ 4) → (40000000000 - x5.toInt < (n : Int)) → ku_M_spread rt xt n 5 [(0, .inl (.ref 71)), (1, .inl (.int a_d)), (2, .inl (.int a_by)), (3, .inl (.long x3)), (5, .inl (.int x5))] [] w 0 0) ∧ (∀ (w : wq_W) (x3 : Int64) (x5 : Int32) (x6 : Int32) (x7 : Int32), (sf_I w) → (sf_m sm_M_spread w0 w) → (0 ≤ x5.toInt) → (x5.toInt ≤ 1) → (0 ≤ x7.toInt) → (x7.toInt ≤ 4) → (x3.toInt ≠ 0) → (30000000000 - x7.toInt < (n : Int)) → ku_M_spread rt xt n 88 [(0, .inl (.ref 71)), (1, .inl (.int a_d)), (2, .inl (.int a_by)), (3, .inl (.long x3)), (5, .inl (.int x5)), (6, .inl (.int x6)), (7, .inl (.int x7))] [] w 0 0) ∧ (∀ (w : wq_W) (x6 : Int32), (sf_I w) → (sf_m sm_M_spread w0 w) → (10 * (x6.toInt.toNat : Int) + 9 < (n : Int)) → ku_M_spread rt xt n 194 [(0, .inl (.ref 71)), (1, .inl (.int a_d)), (6, .inl (.int x6))] [] w 0 0) ∧ (∀ (w : wq_W) (x6 : Int32) (x7 : Int32) (x8 : Int32), (sf_I w) → (sf_m sm_M_spread w0 w) → (1 ≤ x6.toInt) → (x6.toInt ≤ 2147483647) → (0 ≤ x7.toInt) → (x7.toInt ≤ 3) → (0 ≤ x8.toInt) → (x8.toInt ≤ 4) → (10 * x6.toInt + 4 - x8.toInt < (n : Int)) → ku_M_spread rt xt n 205 [(0, .inl (.ref 71)), (1, .inl (.int a_d)), (6, .inl (.int x6)), (7, .inl (.int x7)), (8, .inl (.int x8))] [] w 0 0) := by
    intro n
    induction n with
    | zero =>
      refine ⟨?_, ?_, ?_, ?_⟩
      · intros; omega
      · intros; omega
      · intros; omega
      · intros; omega
    | succ n ih =>
      obtain ⟨i_5, i_88, i_194, i_205⟩ := ih
      refine ⟨?_, ?_, ?_, ?_⟩
      · intro w x3 x5 I_w s_w l_x5 u_x5 hm
        show kh_M_spread_5 rt xt (ku_M_spread rt xt n) [(0, .inl (.ref 71)), (1, .inl (.int a_d)), (2, .inl (.int a_by)), (3, .inl (.long x3)), (5, .inl (.int x5))] [] w 0 0
        generalize ku_M_spread rt xt n = K at i_5 i_88 i_194 i_205 ⊢
        refine sf_iload rfl ?_
        refine sf_aload rfl ?_
        refine sf_getr I_w rfl rfl ?_
        refine sf_iload rfl ?_
        refine sf_iald I_w rfl (by omega) (fun v1 lv1 uv1 ev1 => ?_)
        rw [sf_ma s_w (p := 104) rfl] at ev1
        refine sf_f2_ge (fun h2 => ?_) (fun h2 => ?_)
        · refine sf_lload rfl ?_
          refine sf_lconst (by decide : (0 : Int64).toInt = 0) (fun z3 ez3 => ?_)
          refine sf_fl_eq (fun h4 => ?_) (fun h4 => ?_)
          · refine sf_iconst sf_c1 (fun z5 ez5 => ?_)
            refine sf_istore (L' := [(0, .inl (.ref 71)), (1, .inl (.int a_d)), (2, .inl (.int a_by)), (3, .inl (.long x3))]) rfl ?_
            refine sf_iload rfl ?_
            refine sf_f1_eq (fun h6 => absurd h6 (by omega)) (fun h6 => ?_)
            refine sf_aload rfl ?_
            refine sf_getr I_w rfl rfl ?_
            refine sf_iload rfl ?_
            refine sf_iald I_w rfl (by omega) (fun v7 lv7 uv7 ev7 => ?_)
            rw [sf_ma s_w (p := 104) rfl] at ev7
            refine sf_i2l (fun v8 ev8 => ?_)
            refine sf_lstore (L' := [(5, .inl (.int z5)), (0, .inl (.ref 71)), (1, .inl (.int a_d)), (2, .inl (.int a_by))]) rfl ?_
            refine sf_aload rfl ?_
            refine sf_getr I_w rfl rfl ?_
            refine sf_iconst sf_c2 (fun z9 ez9 => ?_)
            refine sf_iload rfl ?_
            refine sf_imull (n := 2) (by omega) (by omega) (fun v10 ev10 => ?_)
            refine sf_iload rfl ?_
            refine sf_iadd (by omega) (fun v11 ev11 => ?_)
            refine sf_iald I_w rfl (by omega) (fun v12 lv12 uv12 ev12 => ?_)
            clear lv12 uv12
            clear ev12
            refine sf_istore (L' := [(3, .inl (.long v8)), (5, .inl (.int z5)), (0, .inl (.ref 71)), (1, .inl (.int a_d)), (2, .inl (.int a_by))]) rfl ?_
            refine sf_iconst sf_c0 (fun z13 ez13 => ?_)
            refine sf_istore (L' := [(6, .inl (.int v12)), (3, .inl (.long v8)), (5, .inl (.int z5)), (0, .inl (.ref 71)), (1, .inl (.int a_d)), (2, .inl (.int a_by))]) rfl ?_
            refine sf_can (L' := [(0, .inl (.ref 71)), (1, .inl (.int a_d)), (2, .inl (.int a_by)), (3, .inl (.long v8)), (5, .inl (.int z5)), (6, .inl (.int v12)), (7, .inl (.int z13))]) rfl ?_
            exact i_88 w v8 z5 v12 z13 I_w s_w (by omega) (by omega) (by omega) (by omega) (by omega) (by omega)
          · refine sf_iconst sf_c0 (fun z14 ez14 => ?_)
            refine sf_istore (L' := [(0, .inl (.ref 71)), (1, .inl (.int a_d)), (2, .inl (.int a_by)), (3, .inl (.long x3))]) rfl ?_
            refine sf_iload rfl ?_
            refine sf_f1_eq (fun h15 => ?_) (fun h15 => absurd h15 (by omega))
            refine sf_lload rfl ?_
            refine sf_lstore (L' := [(5, .inl (.int z14)), (0, .inl (.ref 71)), (1, .inl (.int a_d)), (2, .inl (.int a_by))]) rfl ?_
            refine sf_aload rfl ?_
            refine sf_getr I_w rfl rfl ?_
            refine sf_iconst sf_c2 (fun z16 ez16 => ?_)
            refine sf_iload rfl ?_
            refine sf_imull (n := 2) (by omega) (by omega) (fun v17 ev17 => ?_)
            refine sf_iload rfl ?_
            refine sf_iadd (by omega) (fun v18 ev18 => ?_)
            refine sf_iald I_w rfl (by omega) (fun v19 lv19 uv19 ev19 => ?_)
            clear lv19 uv19
            clear ev19
            refine sf_istore (L' := [(3, .inl (.long x3)), (5, .inl (.int z14)), (0, .inl (.ref 71)), (1, .inl (.int a_d)), (2, .inl (.int a_by))]) rfl ?_
            refine sf_iconst sf_c0 (fun z20 ez20 => ?_)
            refine sf_istore (L' := [(6, .inl (.int v19)), (3, .inl (.long x3)), (5, .inl (.int z14)), (0, .inl (.ref 71)), (1, .inl (.int a_d)), (2, .inl (.int a_by))]) rfl ?_
            refine sf_can (L' := [(0, .inl (.ref 71)), (1, .inl (.int a_d)), (2, .inl (.int a_by)), (3, .inl (.long x3)), (5, .inl (.int z14)), (6, .inl (.int v19)), (7, .inl (.int z20))]) rfl ?_
            exact i_88 w x3 z14 v19 z20 I_w s_w (by omega) (by omega) (by omega) (by omega) (by omega) (by omega)
        · refine sf_lload rfl ?_
          refine sf_aload rfl ?_
          refine sf_getr I_w rfl rfl ?_
          refine sf_iconst sf_c3 (fun z21 ez21 => ?_)
          refine sf_iconst sf_c4 (fun z22 ez22 => ?_)
          refine sf_iload rfl ?_
          refine sf_imull (n := 4) (by omega) (by omega) (fun v23 ev23 => ?_)
          refine sf_iload rfl ?_
          refine sf_iadd (by omega) (fun v24 ev24 => ?_)
          refine sf_imull (n := 3) (by omega) (by omega) (fun v25 ev25 => ?_)
          refine sf_iconst sf_c1 (fun z26 ez26 => ?_)
          refine sf_iadd (by omega) (fun v27 ev27 => ?_)
          refine sf_iload rfl ?_
          refine sf_iadd (by omega) (fun v28 ev28 => ?_)
          refine sf_iald I_w rfl (by omega) (fun v29 lv29 uv29 ev29 => ?_)
          rw [sf_ma s_w (p := 110) rfl] at ev29
          refine sf_i2lb (fun v30 ev30 lv30 uv30 => ?_)
          refine sf_l2 (fun v31 => ?_)
          refine sf_lstore (L' := [(0, .inl (.ref 71)), (1, .inl (.int a_d)), (2, .inl (.int a_by)), (5, .inl (.int x5))]) rfl ?_
          refine sf_iinc (L' := [(3, .inl (.long v31)), (0, .inl (.ref 71)), (1, .inl (.int a_d)), (2, .inl (.int a_by))]) sf_c1 rfl rfl (by omega) (fun v32 ev32 => ?_)
          refine sf_can (L' := [(0, .inl (.ref 71)), (1, .inl (.int a_d)), (2, .inl (.int a_by)), (3, .inl (.long v31)), (5, .inl (.int v32))]) rfl ?_
          exact i_5 w v31 v32 I_w s_w (by omega) (by omega) (by omega)
      · intro w x3 x5 x6 x7 I_w s_w l_x5 u_x5 l_x7 u_x7 f_0 hm
        show kh_M_spread_88 rt xt (ku_M_spread rt xt n) [(0, .inl (.ref 71)), (1, .inl (.int a_d)), (2, .inl (.int a_by)), (3, .inl (.long x3)), (5, .inl (.int x5)), (6, .inl (.int x6)), (7, .inl (.int x7))] [] w 0 0
        generalize ku_M_spread rt xt n = K at i_5 i_88 i_194 i_205 ⊢
        have b6 := sf_bd x6
        refine sf_iload rfl ?_
        refine sf_aload rfl ?_
        refine sf_getr I_w rfl rfl ?_
        refine sf_iload rfl ?_
        refine sf_iald I_w rfl (by omega) (fun v33 lv33 uv33 ev33 => ?_)
        rw [sf_ma s_w (p := 104) rfl] at ev33
        refine sf_f2_ge (fun h34 => ?_) (fun h34 => ?_)
        · refine sf_can (L' := [(0, .inl (.ref 71)), (1, .inl (.int a_d)), (6, .inl (.int x6))]) rfl ?_
          exact i_194 w x6 I_w s_w (by omega)
        · refine sf_aload rfl ?_
          refine sf_getr I_w rfl rfl ?_
          refine sf_iconst sf_c2 (fun z35 ez35 => ?_)
          refine sf_iload rfl ?_
          refine sf_imull (n := 2) (by omega) (by omega) (fun v36 ev36 => ?_)
          refine sf_iload rfl ?_
          refine sf_iadd (by omega) (fun v37 ev37 => ?_)
          refine sf_iald I_w rfl (by omega) (fun v38 lv38 uv38 ev38 => ?_)
          clear lv38 uv38
          clear ev38
          refine sf_i2lb (fun v39 ev39 lv39 uv39 => ?_)
          refine sf_iload rfl ?_
          refine sf_f1_eq (fun h40 => ?_) (fun h40 => ?_)
          · refine sf_aload rfl ?_
            refine sf_getr I_w rfl rfl ?_
            refine sf_iconst sf_c3 (fun z41 ez41 => ?_)
            refine sf_iconst sf_c4 (fun z42 ez42 => ?_)
            refine sf_iload rfl ?_
            refine sf_imull (n := 4) (by omega) (by omega) (fun v43 ev43 => ?_)
            refine sf_iload rfl ?_
            refine sf_iadd (by omega) (fun v44 ev44 => ?_)
            refine sf_imull (n := 3) (by omega) (by omega) (fun v45 ev45 => ?_)
            refine sf_iconst sf_c1 (fun z46 ez46 => ?_)
            refine sf_iadd (by omega) (fun v47 ev47 => ?_)
            refine sf_iload rfl ?_
            refine sf_iadd (by omega) (fun v48 ev48 => ?_)
            refine sf_iald I_w rfl (by omega) (fun v49 lv49 uv49 ev49 => ?_)
            rw [sf_ma s_w (p := 110) rfl] at ev49
            refine sf_i2lb (fun v50 ev50 lv50 uv50 => ?_)
            refine sf_l2 (fun v51 => ?_)
            refine sf_lstore (L' := [(0, .inl (.ref 71)), (1, .inl (.int a_d)), (2, .inl (.int a_by)), (3, .inl (.long x3)), (5, .inl (.int x5)), (6, .inl (.int x6)), (7, .inl (.int x7))]) rfl ?_
            refine sf_aload rfl ?_
            refine sf_getr I_w rfl rfl ?_
            refine sf_iconst sf_c4 (fun z52 ez52 => ?_)
            refine sf_iload rfl ?_
            refine sf_imull (n := 4) (by omega) (by omega) (fun v53 ev53 => ?_)
            refine sf_iload rfl ?_
            refine sf_iadd (by omega) (fun v54 ev54 => ?_)
            refine sf_aload rfl ?_
            refine sf_getr I_w rfl rfl ?_
            refine sf_iconst sf_c4 (fun z55 ez55 => ?_)
            refine sf_iload rfl ?_
            refine sf_imull (n := 4) (by omega) (by omega) (fun v56 ev56 => ?_)
            refine sf_iload rfl ?_
            refine sf_iadd (by omega) (fun v57 ev57 => ?_)
            refine sf_lald I_w rfl (by omega) (fun v58 ev58 => ?_)
            clear ev58
            refine sf_lload rfl ?_
            refine sf_lload rfl ?_
            refine sf_l2d (by omega) (fun v59 => ?_)
            refine sf_l2 (fun v60 => ?_)
            refine sf_last I_w s_w rfl (by omega) rfl rfl (fun w61 Iw61 sw61 kw61 uw61 => ?_)
            clear kw61 uw61
            refine sf_aload rfl ?_
            refine sf_getr Iw61 rfl rfl ?_
            refine sf_iload rfl ?_
            refine sf_lload rfl ?_
            refine sf_lload rfl ?_
            refine sf_l2d (by omega) (fun v62 => ?_)
            refine sf_last Iw61 sw61 rfl (by omega) rfl rfl (fun w63 Iw63 sw63 kw63 uw63 => ?_)
            clear kw63 uw63
            refine sf_iload rfl ?_
            refine sf_lload rfl ?_
            refine sf_lload rfl ?_
            refine sf_l2d (by omega) (fun v64 => ?_)
            refine sf_l2i (fun v65 => ?_)
            refine sf_i2 (fun v66 => ?_)
            refine sf_istore (L' := [(8, .inl (.long v51)), (0, .inl (.ref 71)), (1, .inl (.int a_d)), (2, .inl (.int a_by)), (3, .inl (.long x3)), (5, .inl (.int x5)), (7, .inl (.int x7))]) rfl ?_
            refine sf_iinc (L' := [(6, .inl (.int v66)), (8, .inl (.long v51)), (0, .inl (.ref 71)), (1, .inl (.int a_d)), (2, .inl (.int a_by)), (3, .inl (.long x3)), (5, .inl (.int x5))]) sf_c1 rfl rfl (by omega) (fun v67 ev67 => ?_)
            refine sf_can (L' := [(0, .inl (.ref 71)), (1, .inl (.int a_d)), (2, .inl (.int a_by)), (3, .inl (.long x3)), (5, .inl (.int x5)), (6, .inl (.int v66)), (7, .inl (.int v67))]) rfl ?_
            exact i_88 w63 x3 x5 v66 v67 Iw63 sw63 (by omega) (by omega) (by omega) (by omega) (by omega) (by omega)
          · refine sf_lconst (by decide : (1 : Int64).toInt = 1) (fun z68 ez68 => ?_)
            refine sf_lmulr (n := 1) (by omega) (by omega) (fun v69 ev69 => ?_)
            refine sf_lstore (L' := [(0, .inl (.ref 71)), (1, .inl (.int a_d)), (2, .inl (.int a_by)), (3, .inl (.long x3)), (5, .inl (.int x5)), (6, .inl (.int x6)), (7, .inl (.int x7))]) rfl ?_
            refine sf_aload rfl ?_
            refine sf_getr I_w rfl rfl ?_
            refine sf_iconst sf_c4 (fun z70 ez70 => ?_)
            refine sf_iload rfl ?_
            refine sf_imull (n := 4) (by omega) (by omega) (fun v71 ev71 => ?_)
            refine sf_iload rfl ?_
            refine sf_iadd (by omega) (fun v72 ev72 => ?_)
            refine sf_aload rfl ?_
            refine sf_getr I_w rfl rfl ?_
            refine sf_iconst sf_c4 (fun z73 ez73 => ?_)
            refine sf_iload rfl ?_
            refine sf_imull (n := 4) (by omega) (by omega) (fun v74 ev74 => ?_)
            refine sf_iload rfl ?_
            refine sf_iadd (by omega) (fun v75 ev75 => ?_)
            refine sf_lald I_w rfl (by omega) (fun v76 ev76 => ?_)
            clear ev76
            refine sf_lload rfl ?_
            refine sf_lload rfl ?_
            refine sf_l2d (by omega) (fun v77 => ?_)
            refine sf_l2 (fun v78 => ?_)
            refine sf_last I_w s_w rfl (by omega) rfl rfl (fun w79 Iw79 sw79 kw79 uw79 => ?_)
            clear kw79 uw79
            refine sf_aload rfl ?_
            refine sf_getr Iw79 rfl rfl ?_
            refine sf_iload rfl ?_
            refine sf_lload rfl ?_
            refine sf_lload rfl ?_
            refine sf_l2d (by omega) (fun v80 => ?_)
            refine sf_last Iw79 sw79 rfl (by omega) rfl rfl (fun w81 Iw81 sw81 kw81 uw81 => ?_)
            clear kw81 uw81
            refine sf_iload rfl ?_
            refine sf_lload rfl ?_
            refine sf_lload rfl ?_
            refine sf_l2d (by omega) (fun v82 => ?_)
            refine sf_l2i (fun v83 => ?_)
            refine sf_i2 (fun v84 => ?_)
            refine sf_istore (L' := [(8, .inl (.long v69)), (0, .inl (.ref 71)), (1, .inl (.int a_d)), (2, .inl (.int a_by)), (3, .inl (.long x3)), (5, .inl (.int x5)), (7, .inl (.int x7))]) rfl ?_
            refine sf_iinc (L' := [(6, .inl (.int v84)), (8, .inl (.long v69)), (0, .inl (.ref 71)), (1, .inl (.int a_d)), (2, .inl (.int a_by)), (3, .inl (.long x3)), (5, .inl (.int x5))]) sf_c1 rfl rfl (by omega) (fun v85 ev85 => ?_)
            refine sf_can (L' := [(0, .inl (.ref 71)), (1, .inl (.int a_d)), (2, .inl (.int a_by)), (3, .inl (.long x3)), (5, .inl (.int x5)), (6, .inl (.int v84)), (7, .inl (.int v85))]) rfl ?_
            exact i_88 w81 x3 x5 v84 v85 Iw81 sw81 (by omega) (by omega) (by omega) (by omega) (by omega) (by omega)
      · intro w x6 I_w s_w hm
        show kh_M_spread_194 rt xt (ku_M_spread rt xt n) [(0, .inl (.ref 71)), (1, .inl (.int a_d)), (6, .inl (.int x6))] [] w 0 0
        generalize ku_M_spread rt xt n = K at i_5 i_88 i_194 i_205 ⊢
        have b6 := sf_bd x6
        refine sf_iload rfl ?_
        refine sf_f1_le (fun h86 => ?_) (fun h86 => ?_)
        · refine sf_vreturn rfl rfl ?_
          exact hR _ I_w s_w 
        · refine sf_iconst sf_c0 (fun z87 ez87 => ?_)
          refine sf_istore (L' := [(0, .inl (.ref 71)), (1, .inl (.int a_d)), (6, .inl (.int x6))]) rfl ?_
          refine sf_iconst sf_c0 (fun z88 ez88 => ?_)
          refine sf_istore (L' := [(7, .inl (.int z87)), (0, .inl (.ref 71)), (1, .inl (.int a_d)), (6, .inl (.int x6))]) rfl ?_
          refine sf_can (L' := [(0, .inl (.ref 71)), (1, .inl (.int a_d)), (6, .inl (.int x6)), (7, .inl (.int z87)), (8, .inl (.int z88))]) rfl ?_
          exact i_205 w x6 z87 z88 I_w s_w (by omega) (by omega) (by omega) (by omega) (by omega) (by omega) (by omega)
      · intro w x6 x7 x8 I_w s_w l_x6 u_x6 l_x7 u_x7 l_x8 u_x8 hm
        show kh_M_spread_205 rt xt (ku_M_spread rt xt n) [(0, .inl (.ref 71)), (1, .inl (.int a_d)), (6, .inl (.int x6)), (7, .inl (.int x7)), (8, .inl (.int x8))] [] w 0 0
        generalize ku_M_spread rt xt n = K at i_5 i_88 i_194 i_205 ⊢
        refine sf_iload rfl ?_
        refine sf_aload rfl ?_
        refine sf_getr I_w rfl rfl ?_
        refine sf_iload rfl ?_
        refine sf_iald I_w rfl (by omega) (fun v89 lv89 uv89 ev89 => ?_)
        rw [sf_ma s_w (p := 104) rfl] at ev89
        refine sf_f2_ge (fun h90 => ?_) (fun h90 => ?_)
        · refine sf_aload rfl ?_
          refine sf_getr I_w rfl rfl ?_
          refine sf_iconst sf_c4 (fun z91 ez91 => ?_)
          refine sf_iload rfl ?_
          refine sf_imull (n := 4) (by omega) (by omega) (fun v92 ev92 => ?_)
          refine sf_iload rfl ?_
          refine sf_iadd (by omega) (fun v93 ev93 => ?_)
          refine sf_dup2 rfl rfl ?_
          refine sf_lald I_w rfl (by omega) (fun v94 ev94 => ?_)
          clear ev94
          refine sf_lconst (by decide : (1 : Int64).toInt = 1) (fun z95 ez95 => ?_)
          refine sf_l2 (fun v96 => ?_)
          refine sf_last I_w s_w rfl (by omega) rfl rfl (fun w97 Iw97 sw97 kw97 uw97 => ?_)
          clear kw97 uw97
          refine sf_aload rfl ?_
          refine sf_getr Iw97 rfl rfl ?_
          refine sf_iload rfl ?_
          refine sf_lconst (by decide : (-1 : Int64).toInt = -1) (fun z98 ez98 => ?_)
          refine sf_last Iw97 sw97 rfl (by omega) rfl rfl (fun w99 Iw99 sw99 kw99 uw99 => ?_)
          clear kw99 uw99
          refine sf_iinc (L' := [(0, .inl (.ref 71)), (1, .inl (.int a_d)), (7, .inl (.int x7)), (8, .inl (.int x8))]) sf_cm1 rfl rfl (by omega) (fun v100 ev100 => ?_)
          refine sf_can (L' := [(0, .inl (.ref 71)), (1, .inl (.int a_d)), (6, .inl (.int v100))]) rfl ?_
          exact i_194 w99 v100 Iw99 sw99 (by omega)
        · refine sf_aload rfl ?_
          refine sf_getr I_w rfl rfl ?_
          refine sf_iload rfl ?_
          refine sf_lald I_w rfl (by omega) (fun v101 ev101 => ?_)
          clear ev101
          refine sf_aload rfl ?_
          refine sf_getr I_w rfl rfl ?_
          refine sf_iload rfl ?_
          refine sf_lald I_w rfl (by omega) (fun v102 ev102 => ?_)
          clear ev102
          refine sf_fl_le (fun h103 => ?_) (fun h103 => ?_)
          · refine sf_iload rfl ?_
            refine sf_istore (L' := [(0, .inl (.ref 71)), (1, .inl (.int a_d)), (6, .inl (.int x6)), (8, .inl (.int x8))]) rfl ?_
            refine sf_iinc (L' := [(7, .inl (.int x7)), (0, .inl (.ref 71)), (1, .inl (.int a_d)), (6, .inl (.int x6))]) sf_c1 rfl rfl (by omega) (fun v104 ev104 => ?_)
            refine sf_can (L' := [(0, .inl (.ref 71)), (1, .inl (.int a_d)), (6, .inl (.int x6)), (7, .inl (.int x7)), (8, .inl (.int v104))]) rfl ?_
            exact i_205 w x6 x7 v104 I_w s_w (by omega) (by omega) (by omega) (by omega) (by omega) (by omega) (by omega)
          · refine sf_iload rfl ?_
            refine sf_istore (L' := [(0, .inl (.ref 71)), (1, .inl (.int a_d)), (6, .inl (.int x6)), (8, .inl (.int x8))]) rfl ?_
            refine sf_iinc (L' := [(7, .inl (.int x8)), (0, .inl (.ref 71)), (1, .inl (.int a_d)), (6, .inl (.int x6))]) sf_c1 rfl rfl (by omega) (fun v105 ev105 => ?_)
            refine sf_can (L' := [(0, .inl (.ref 71)), (1, .inl (.int a_d)), (6, .inl (.int x6)), (7, .inl (.int x8)), (8, .inl (.int v105))]) rfl ?_
            exact i_205 w x6 x8 v105 I_w s_w (by omega) (by omega) (by omega) (by omega) (by omega) (by omega) (by omega)
  have hl1 := hl 1000000000000
  obtain ⟨i_5, i_88, i_194, i_205⟩ := hl1
  clear hl
  refine sf_sp (L := [(0, .inl (.ref 71)), (1, .inl (.int a_d)), (2, .inl (.int a_by))]) rfl rfl ?_
  generalize ku_M_spread rt xt 1000000000000 = K at i_5 i_88 i_194 i_205 ⊢
  refine sf_lconst (by decide : (0 : Int64).toInt = 0) (fun z106 ez106 => ?_)
  refine sf_lstore (L' := [(0, .inl (.ref 71)), (1, .inl (.int a_d)), (2, .inl (.int a_by))]) rfl ?_
  refine sf_iconst sf_c0 (fun z107 ez107 => ?_)
  refine sf_istore (L' := [(3, .inl (.long z106)), (0, .inl (.ref 71)), (1, .inl (.int a_d)), (2, .inl (.int a_by))]) rfl ?_
  refine sf_can (L' := [(0, .inl (.ref 71)), (1, .inl (.int a_d)), (2, .inl (.int a_by)), (3, .inl (.long z106)), (5, .inl (.int z107))]) rfl ?_
  exact i_5 w0 z106 z107 hI0 hs0 (by omega) (by omega) (by omega)
def sm_M_value : List Nat := [111, 112]
set_option maxRecDepth 100000 in
set_option maxHeartbeats 4000000 in
theorem sc_M_value {w0 : wq_W} (hI0 : sf_I w0) {rt : Option wq_V → wq_W → Prop} {xt : Nat → wq_W → Prop} {a_d : Int32} (p0 : 0 ≤ a_d.toInt) (p1 : a_d.toInt ≤ 11) (hR : ∀ (w : wq_W), sf_I w → sf_m sm_M_value w0 w → rt none w) : ks_M_value [.inl (.ref 71), .inl (.int a_d)] w0 rt xt := by
  have hs0 : sf_m sm_M_value w0 w0 := sf_m0
  have hl : ∀ n : Nat, (∀ (w : wq_W) (x2 : Int32), (sf_I w) → (sf_m sm_M_value w0 w) → (0 ≤ x2.toInt) → (x2.toInt ≤ 48) → (48 - x2.toInt < (n : Int)) → ku_M_value rt xt n 4 [(0, .inl (.ref 71)), (1, .inl (.int a_d)), (2, .inl (.int x2))] [] w 0 0) := by
    intro n
    induction n with
    | zero =>
      refine ?_
      · intros; omega
    | succ n ih =>
      have i_4 := ih
      intro w x2 I_w s_w l_x2 u_x2 hm
      show kh_M_value_4 rt xt (ku_M_value rt xt n) [(0, .inl (.ref 71)), (1, .inl (.int a_d)), (2, .inl (.int x2))] [] w 0 0
      generalize ku_M_value rt xt n = K at i_4 ⊢
      refine sf_iload rfl ?_
      refine sf_iconst sf_c4 (fun z1 ez1 => ?_)
      refine sf_iload rfl ?_
      refine sf_imull (n := 4) (by omega) (by omega) (fun v2 ev2 => ?_)
      refine sf_aload rfl ?_
      refine sf_getr I_w rfl rfl ?_
      refine sf_iload rfl ?_
      refine sf_iald I_w rfl (by omega) (fun v3 lv3 uv3 ev3 => ?_)
      rw [sf_ma s_w (p := 104) rfl] at ev3
      refine sf_iadd (by omega) (fun v4 ev4 => ?_)
      refine sf_f2_ge (fun h5 => ?_) (fun h5 => ?_)
      · refine sf_aload rfl ?_
        refine sf_getr I_w rfl rfl ?_
        refine sf_iload rfl ?_
        refine sf_iald I_w rfl (by omega) (fun v6 lv6 uv6 ev6 => ?_)
        rw [sf_ma s_w (p := 104) rfl] at ev6
        refine sf_f1_le (fun h7 => ?_) (fun h7 => ?_)
        · refine sf_vreturn rfl rfl ?_
          exact hR _ I_w s_w 
        · refine sf_aload rfl ?_
          refine sf_iload rfl ?_
          refine sf_iconst sf_c0 (fun z8 ez8 => ?_)
          refine sf_call3 rfl rfl rfl ?_
          refine sf_rv I_w rfl ?_
          refine sc_M_spread I_w (by omega) (by omega) (by omega) (by omega) (by rw [sf_ma s_w (p := 104) rfl]; omega) (fun w9 Iw9 tw9 => ?_)
          have s11 := sf_mt s_w tw9 rfl
          refine sf_aload rfl ?_
          refine sf_iload rfl ?_
          refine sf_iconst sf_c1 (fun z12 ez12 => ?_)
          refine sf_call3 rfl rfl rfl ?_
          refine sf_rv Iw9 rfl ?_
          refine sc_M_spread Iw9 (by omega) (by omega) (by omega) (by omega) (by rw [sf_ma s11 (p := 104) rfl]; omega) (fun w13 Iw13 tw13 => ?_)
          have s15 := sf_mt s11 tw13 rfl
          refine sf_vreturn rfl rfl ?_
          exact hR _ Iw13 s15 
      · refine sf_aload rfl ?_
        refine sf_getr I_w rfl rfl ?_
        refine sf_iload rfl ?_
        refine sf_aload rfl ?_
        refine sf_getr I_w rfl rfl ?_
        refine sf_iconst sf_c3 (fun z16 ez16 => ?_)
        refine sf_iload rfl ?_
        refine sf_imull (n := 3) (by omega) (by omega) (fun v17 ev17 => ?_)
        refine sf_iconst sf_c2 (fun z18 ez18 => ?_)
        refine sf_iadd (by omega) (fun v19 ev19 => ?_)
        refine sf_iald I_w rfl (by omega) (fun v20 lv20 uv20 ev20 => ?_)
        rw [sf_ma s_w (p := 110) rfl] at ev20
        refine sf_i2lb (fun v21 ev21 lv21 uv21 => ?_)
        refine sf_last I_w s_w rfl (by omega) rfl rfl (fun w22 Iw22 sw22 kw22 uw22 => ?_)
        clear kw22 uw22
        refine sf_iinc (L' := [(0, .inl (.ref 71)), (1, .inl (.int a_d))]) sf_c1 rfl rfl (by omega) (fun v23 ev23 => ?_)
        refine sf_can (L' := [(0, .inl (.ref 71)), (1, .inl (.int a_d)), (2, .inl (.int v23))]) rfl ?_
        exact i_4 w22 v23 Iw22 sw22 (by omega) (by omega) (by omega)
  have hl1 := hl 1000000000000
  have i_4 := hl1
  clear hl hl1
  refine sf_sp (L := [(0, .inl (.ref 71)), (1, .inl (.int a_d))]) rfl rfl ?_
  generalize ku_M_value rt xt 1000000000000 = K at i_4 ⊢
  refine sf_iconst sf_c4 (fun z24 ez24 => ?_)
  refine sf_iload rfl ?_
  refine sf_imull (n := 4) (by omega) (by omega) (fun v25 ev25 => ?_)
  refine sf_istore (L' := [(0, .inl (.ref 71)), (1, .inl (.int a_d))]) rfl ?_
  refine sf_can (L' := [(0, .inl (.ref 71)), (1, .inl (.int a_d)), (2, .inl (.int v25))]) rfl ?_
  exact i_4 w0 v25 hI0 hs0 (by omega) (by omega) (by omega)
def sm_M_find : List Nat := [117, 118]
set_option maxRecDepth 100000 in
set_option maxHeartbeats 4000000 in
theorem sc_M_find {w0 : wq_W} (hI0 : sf_I w0) {rt : Option wq_V → wq_W → Prop} {xt : Nat → wq_W → Prop} {a_d : Int32} (p0 : 0 ≤ a_d.toInt) (p1 : a_d.toInt ≤ 11) (hR : ∀ (r : Int32) (w : wq_W), sf_I w → sf_m sm_M_find w0 w → 0 ≤ r.toInt → r.toInt ≤ 1 → (r.toInt = 1 → ∀ k : Nat, (k : Int) < (sf_a w 104 a_d.toInt.toNat).toInt → 0 ≤ (sf_a w 117 k).toInt) → rt (some (.inl (.int r))) w) : ks_M_find [.inl (.ref 71), .inl (.int a_d)] w0 rt xt := by
  have hs0 : sf_m sm_M_find w0 w0 := sf_m0
  have hl : ∀ n : Nat, (∀ (w : wq_W) (x2 : Int32) (x3 : Int32), (sf_I w) → (sf_m sm_M_find w0 w) → (0 ≤ x2.toInt) → (x2.toInt ≤ 1) → (0 ≤ x3.toInt) → (x3.toInt ≤ 4) → (x2.toInt = 1 → ∀ j : Nat, (j : Int) < x3.toInt → 0 ≤ (sf_a w 117 j).toInt) → (4 - x3.toInt < (n : Int)) → ku_M_find rt xt n 17 [(0, .inl (.ref 71)), (1, .inl (.int a_d)), (2, .inl (.int x2)), (3, .inl (.int x3))] [] w 0 0) := by
    intro n
    induction n with
    | zero =>
      refine ?_
      · intros; omega
    | succ n ih =>
      have i_17 := ih
      intro w x2 x3 I_w s_w l_x2 u_x2 l_x3 u_x3 f_0 hm
      show kh_M_find_17 rt xt (ku_M_find rt xt n) [(0, .inl (.ref 71)), (1, .inl (.int a_d)), (2, .inl (.int x2)), (3, .inl (.int x3))] [] w 0 0
      generalize ku_M_find rt xt n = K at i_17 ⊢
      refine sf_iload rfl ?_
      refine sf_aload rfl ?_
      refine sf_getr I_w rfl rfl ?_
      refine sf_iload rfl ?_
      refine sf_iald I_w rfl (by omega) (fun v1 lv1 uv1 ev1 => ?_)
      rw [sf_ma s_w (p := 104) rfl] at ev1
      refine sf_f2_ge (fun h2 => ?_) (fun h2 => ?_)
      · refine sf_iload rfl ?_
        refine sf_zreturn (by omega) rfl rfl ?_
        exact hR _ _ I_w s_w (by omega) (by omega) (fun h9 => by rw [sf_ma s_w (p := 104) rfl]; intro j hj; exact f_0 h9 j (by omega))
      · refine sf_iconst sf_c4 (fun z3 ez3 => ?_)
        refine sf_iload rfl ?_
        refine sf_imull (n := 4) (by omega) (by omega) (fun v4 ev4 => ?_)
        refine sf_iload rfl ?_
        refine sf_iadd (by omega) (fun v5 ev5 => ?_)
        refine sf_istore (L' := [(0, .inl (.ref 71)), (1, .inl (.int a_d)), (2, .inl (.int x2)), (3, .inl (.int x3))]) rfl ?_
        refine sf_aload rfl ?_
        refine sf_aload rfl ?_
        refine sf_getr I_w rfl rfl ?_
        refine sf_iload rfl ?_
        refine sf_iald I_w rfl (by omega) (fun v6 lv6 uv6 ev6 => ?_)
        clear ev6
        refine sf_call2 rfl rfl rfl ?_
        refine sf_rv I_w rfl ?_
        refine sc_M_classOf I_w (by omega) (by omega) (fun v7 lv7 uv7 q8_0 => ?_)
        rw [sf_mf s_w (p := 71) (j := 1) rfl] at q8_0
        refine sf_istore (L' := [(4, .inl (.int v5)), (0, .inl (.ref 71)), (1, .inl (.int a_d)), (2, .inl (.int x2)), (3, .inl (.int x3))]) rfl ?_
        refine sf_aload rfl ?_
        refine sf_getr I_w rfl rfl ?_
        refine sf_iload rfl ?_
        refine sf_iload rfl ?_
        refine sf_f1_ge (fun h9 => ?_) (fun h9 => ?_)
        · refine sf_aload rfl ?_
          refine sf_iload rfl ?_
          refine sf_aload rfl ?_
          refine sf_getr I_w rfl rfl ?_
          refine sf_iload rfl ?_
          refine sf_iald I_w rfl (by omega) (fun v10 lv10 uv10 ev10 => ?_)
          clear lv10 uv10
          clear ev10
          refine sf_aload rfl ?_
          refine sf_getr I_w rfl rfl ?_
          refine sf_iload rfl ?_
          refine sf_iald I_w rfl (by omega) (fun v11 lv11 uv11 ev11 => ?_)
          clear lv11 uv11
          clear ev11
          refine sf_call4 rfl rfl rfl ?_
          refine sf_rv I_w rfl ?_
          refine sc_M_rateOf I_w (by omega) (by omega) (by rw [sf_mf s_w (p := 71) (j := 1) rfl]; omega) (fun v12 lv12 uv12 => ?_)
          refine sf_iast I_w s_w rfl (by omega) (by omega) rfl rfl (fun w14 Iw14 sw14 kw14 uw14 => ?_)
          clear kw14
          have g2 := uw14
          have g4 : (sf_a w14 117 x3.toInt.toNat).toInt = v12.toInt := by rw [uw14]; unfold upd; rw [if_pos rfl]
          refine sf_aload rfl ?_
          refine sf_getr Iw14 rfl rfl ?_
          refine sf_iload rfl ?_
          refine sf_iload rfl ?_
          refine sf_f1_ge (fun h15 => ?_) (fun h15 => absurd h15 (by omega))
          refine sf_aload rfl ?_
          refine sf_iload rfl ?_
          refine sf_aload rfl ?_
          refine sf_getr Iw14 rfl rfl ?_
          refine sf_iload rfl ?_
          refine sf_iald Iw14 rfl (by omega) (fun v16 lv16 uv16 ev16 => ?_)
          clear lv16 uv16
          clear ev16
          refine sf_aload rfl ?_
          refine sf_getr Iw14 rfl rfl ?_
          refine sf_iload rfl ?_
          refine sf_iald Iw14 rfl (by omega) (fun v17 lv17 uv17 ev17 => ?_)
          clear lv17 uv17
          clear ev17
          refine sf_call4 rfl rfl rfl ?_
          refine sf_rv Iw14 rfl ?_
          refine sc_M_quotaOf Iw14 (by omega) (by omega) (by rw [sf_mf sw14 (p := 71) (j := 1) rfl]; omega) (fun v18 lv18 uv18 => ?_)
          refine sf_iast Iw14 sw14 rfl (by omega) (by omega) rfl rfl (fun w20 Iw20 sw20 kw20 uw20 => ?_)
          have c21 := sf_ma kw20 (p := 117) rfl
          clear kw20 uw20
          refine sf_iload rfl ?_
          refine sf_f1_eq (fun h22 => ?_) (fun h22 => ?_)
          · refine sf_iconst sf_c0 (fun z23 ez23 => ?_)
            refine sf_istore (L' := [(5, .inl (.int v7)), (4, .inl (.int v5)), (0, .inl (.ref 71)), (1, .inl (.int a_d)), (3, .inl (.int x3))]) rfl ?_
            refine sf_iinc (L' := [(2, .inl (.int z23)), (5, .inl (.int v7)), (4, .inl (.int v5)), (0, .inl (.ref 71)), (1, .inl (.int a_d))]) sf_c1 rfl rfl (by omega) (fun v24 ev24 => ?_)
            refine sf_can (L' := [(0, .inl (.ref 71)), (1, .inl (.int a_d)), (2, .inl (.int z23)), (3, .inl (.int v24))]) rfl ?_
            exact i_17 w20 z23 v24 Iw20 sw20 (by omega) (by omega) (by omega) (by omega) (by first | (intro _ j hj; omega) | (intro ha j hj; rw [c21]; rw [g2]; by_cases hj2 : j = x3.toInt.toNat; (subst hj2; rw [g2] at g3; omega); (unfold upd; rw [if_neg hj2]; exact f_0 (by omega) j (by omega)))) (by omega)
          · refine sf_aload rfl ?_
            refine sf_getr Iw20 rfl rfl ?_
            refine sf_iload rfl ?_
            refine sf_iald Iw20 rfl (by omega) (fun v25 lv25 uv25 ev25 => ?_)
            rw [c21] at ev25
            have g3 := ev25
            refine sf_f1_lt (fun h26 => ?_) (fun h26 => ?_)
            · refine sf_iconst sf_c0 (fun z27 ez27 => ?_)
              refine sf_istore (L' := [(5, .inl (.int v7)), (4, .inl (.int v5)), (0, .inl (.ref 71)), (1, .inl (.int a_d)), (3, .inl (.int x3))]) rfl ?_
              refine sf_iinc (L' := [(2, .inl (.int z27)), (5, .inl (.int v7)), (4, .inl (.int v5)), (0, .inl (.ref 71)), (1, .inl (.int a_d))]) sf_c1 rfl rfl (by omega) (fun v28 ev28 => ?_)
              refine sf_can (L' := [(0, .inl (.ref 71)), (1, .inl (.int a_d)), (2, .inl (.int z27)), (3, .inl (.int v28))]) rfl ?_
              exact i_17 w20 z27 v28 Iw20 sw20 (by omega) (by omega) (by omega) (by omega) (by first | (intro _ j hj; omega) | (intro ha j hj; rw [c21]; rw [g2]; by_cases hj2 : j = x3.toInt.toNat; (subst hj2; rw [g2] at g3; omega); (unfold upd; rw [if_neg hj2]; exact f_0 (by omega) j (by omega)))) (by omega)
            · refine sf_iconst sf_c1 (fun z29 ez29 => ?_)
              refine sf_istore (L' := [(5, .inl (.int v7)), (4, .inl (.int v5)), (0, .inl (.ref 71)), (1, .inl (.int a_d)), (3, .inl (.int x3))]) rfl ?_
              refine sf_iinc (L' := [(2, .inl (.int z29)), (5, .inl (.int v7)), (4, .inl (.int v5)), (0, .inl (.ref 71)), (1, .inl (.int a_d))]) sf_c1 rfl rfl (by omega) (fun v30 ev30 => ?_)
              refine sf_can (L' := [(0, .inl (.ref 71)), (1, .inl (.int a_d)), (2, .inl (.int z29)), (3, .inl (.int v30))]) rfl ?_
              exact i_17 w20 z29 v30 Iw20 sw20 (by omega) (by omega) (by omega) (by omega) (by first | (intro _ j hj; omega) | (intro ha j hj; rw [c21]; rw [g2]; by_cases hj2 : j = x3.toInt.toNat; (subst hj2; rw [g2] at g3; omega); (unfold upd; rw [if_neg hj2]; exact f_0 (by omega) j (by omega)))) (by omega)
        · refine sf_iconst sf_cm1 (fun z31 ez31 => ?_)
          refine sf_iast I_w s_w rfl (by omega) (by omega) rfl rfl (fun w32 Iw32 sw32 kw32 uw32 => ?_)
          clear kw32
          have g2 := uw32
          have g4 : (sf_a w32 117 x3.toInt.toNat).toInt = z31.toInt := by rw [uw32]; unfold upd; rw [if_pos rfl]
          refine sf_aload rfl ?_
          refine sf_getr Iw32 rfl rfl ?_
          refine sf_iload rfl ?_
          refine sf_iload rfl ?_
          refine sf_f1_ge (fun h33 => absurd h33 (by omega)) (fun h33 => ?_)
          refine sf_iconst sf_cm1 (fun z34 ez34 => ?_)
          refine sf_iast Iw32 sw32 rfl (by omega) (by omega) rfl rfl (fun w35 Iw35 sw35 kw35 uw35 => ?_)
          have c36 := sf_ma kw35 (p := 117) rfl
          clear kw35 uw35
          refine sf_iload rfl ?_
          refine sf_f1_eq (fun h37 => ?_) (fun h37 => ?_)
          · refine sf_iconst sf_c0 (fun z38 ez38 => ?_)
            refine sf_istore (L' := [(5, .inl (.int v7)), (4, .inl (.int v5)), (0, .inl (.ref 71)), (1, .inl (.int a_d)), (3, .inl (.int x3))]) rfl ?_
            refine sf_iinc (L' := [(2, .inl (.int z38)), (5, .inl (.int v7)), (4, .inl (.int v5)), (0, .inl (.ref 71)), (1, .inl (.int a_d))]) sf_c1 rfl rfl (by omega) (fun v39 ev39 => ?_)
            refine sf_can (L' := [(0, .inl (.ref 71)), (1, .inl (.int a_d)), (2, .inl (.int z38)), (3, .inl (.int v39))]) rfl ?_
            exact i_17 w35 z38 v39 Iw35 sw35 (by omega) (by omega) (by omega) (by omega) (by first | (intro _ j hj; omega) | (intro ha j hj; rw [c36]; rw [g2]; by_cases hj2 : j = x3.toInt.toNat; (subst hj2; rw [g2] at g3; omega); (unfold upd; rw [if_neg hj2]; exact f_0 (by omega) j (by omega)))) (by omega)
          · refine sf_aload rfl ?_
            refine sf_getr Iw35 rfl rfl ?_
            refine sf_iload rfl ?_
            refine sf_iald Iw35 rfl (by omega) (fun v40 lv40 uv40 ev40 => ?_)
            rw [c36] at ev40
            have g3 := ev40
            refine sf_f1_lt (fun h41 => ?_) (fun h41 => ?_)
            · refine sf_iconst sf_c0 (fun z42 ez42 => ?_)
              refine sf_istore (L' := [(5, .inl (.int v7)), (4, .inl (.int v5)), (0, .inl (.ref 71)), (1, .inl (.int a_d)), (3, .inl (.int x3))]) rfl ?_
              refine sf_iinc (L' := [(2, .inl (.int z42)), (5, .inl (.int v7)), (4, .inl (.int v5)), (0, .inl (.ref 71)), (1, .inl (.int a_d))]) sf_c1 rfl rfl (by omega) (fun v43 ev43 => ?_)
              refine sf_can (L' := [(0, .inl (.ref 71)), (1, .inl (.int a_d)), (2, .inl (.int z42)), (3, .inl (.int v43))]) rfl ?_
              exact i_17 w35 z42 v43 Iw35 sw35 (by omega) (by omega) (by omega) (by omega) (by first | (intro _ j hj; omega) | (intro ha j hj; rw [c36]; rw [g2]; by_cases hj2 : j = x3.toInt.toNat; (subst hj2; rw [g2] at g3; omega); (unfold upd; rw [if_neg hj2]; exact f_0 (by omega) j (by omega)))) (by omega)
            · refine sf_iconst sf_c1 (fun z44 ez44 => ?_)
              refine sf_istore (L' := [(5, .inl (.int v7)), (4, .inl (.int v5)), (0, .inl (.ref 71)), (1, .inl (.int a_d)), (3, .inl (.int x3))]) rfl ?_
              refine sf_iinc (L' := [(2, .inl (.int z44)), (5, .inl (.int v7)), (4, .inl (.int v5)), (0, .inl (.ref 71)), (1, .inl (.int a_d))]) sf_c1 rfl rfl (by omega) (fun v45 ev45 => ?_)
              refine sf_can (L' := [(0, .inl (.ref 71)), (1, .inl (.int a_d)), (2, .inl (.int z44)), (3, .inl (.int v45))]) rfl ?_
              exact i_17 w35 z44 v45 Iw35 sw35 (by omega) (by omega) (by omega) (by omega) (by first | (intro _ j hj; omega) | (intro ha j hj; rw [c36]; rw [g2]; by_cases hj2 : j = x3.toInt.toNat; (subst hj2; rw [g2] at g3; omega); (unfold upd; rw [if_neg hj2]; exact f_0 (by omega) j (by omega)))) (by omega)
  have hl1 := hl 1000000000000
  have i_17 := hl1
  clear hl hl1
  refine sf_sp (L := [(0, .inl (.ref 71)), (1, .inl (.int a_d))]) rfl rfl ?_
  generalize ku_M_find rt xt 1000000000000 = K at i_17 ⊢
  refine sf_aload rfl ?_
  refine sf_getr hI0 rfl rfl ?_
  refine sf_iload rfl ?_
  refine sf_iald hI0 rfl (by omega) (fun v46 lv46 uv46 ev46 => ?_)
  refine sf_f1_le (fun h47 => ?_) (fun h47 => ?_)
  · refine sf_iconst sf_c0 (fun z48 ez48 => ?_)
    refine sf_istore (L' := [(0, .inl (.ref 71)), (1, .inl (.int a_d))]) rfl ?_
    refine sf_iconst sf_c0 (fun z49 ez49 => ?_)
    refine sf_istore (L' := [(2, .inl (.int z48)), (0, .inl (.ref 71)), (1, .inl (.int a_d))]) rfl ?_
    refine sf_can (L' := [(0, .inl (.ref 71)), (1, .inl (.int a_d)), (2, .inl (.int z48)), (3, .inl (.int z49))]) rfl ?_
    exact i_17 w0 z48 z49 hI0 hs0 (by omega) (by omega) (by omega) (by omega) (by first | (intro _ j hj; omega) | (intro ha j hj; rw [g2]; by_cases hj2 : j = x3.toInt.toNat; (subst hj2; rw [g2] at g3; omega); (unfold upd; rw [if_neg hj2]; exact f_0 (by omega) j (by omega)))) (by omega)
  · refine sf_iconst sf_c1 (fun z50 ez50 => ?_)
    refine sf_istore (L' := [(0, .inl (.ref 71)), (1, .inl (.int a_d))]) rfl ?_
    refine sf_iconst sf_c0 (fun z51 ez51 => ?_)
    refine sf_istore (L' := [(2, .inl (.int z50)), (0, .inl (.ref 71)), (1, .inl (.int a_d))]) rfl ?_
    refine sf_can (L' := [(0, .inl (.ref 71)), (1, .inl (.int a_d)), (2, .inl (.int z50)), (3, .inl (.int z51))]) rfl ?_
    exact i_17 w0 z50 z51 hI0 hs0 (by omega) (by omega) (by omega) (by omega) (by first | (intro _ j hj; omega) | (intro ha j hj; rw [g2]; by_cases hj2 : j = x3.toInt.toNat; (subst hj2; rw [g2] at g3; omega); (unfold upd; rw [if_neg hj2]; exact f_0 (by omega) j (by omega)))) (by omega)
def sm_M_dutyOf : List Nat := []
set_option maxRecDepth 100000 in
set_option maxHeartbeats 4000000 in
theorem sc_M_dutyOf {w0 : wq_W} (hI0 : sf_I w0) {rt : Option wq_V → wq_W → Prop} {xt : Nat → wq_W → Prop} {a_d : Int32} {a_k : Int32} (p0 : 0 ≤ a_d.toInt) (p1 : a_d.toInt ≤ 11) (p2 : 0 ≤ a_k.toInt) (p3 : a_k.toInt ≤ 3) (p4 : a_k.toInt < (sf_a w0 104 a_d.toInt.toNat).toInt) (p5 : 0 ≤ (sf_a w0 117 a_k.toInt.toNat).toInt) (hR : ∀ (r : Int64), rt (some (.inl (.long r))) w0) : ks_M_dutyOf [.inl (.ref 71), .inl (.int a_d), .inl (.int a_k)] w0 rt xt := by
  refine sf_sp (L := [(0, .inl (.ref 71)), (1, .inl (.int a_d)), (2, .inl (.int a_k))]) rfl rfl ?_
  refine sf_iconst sf_c4 (fun z1 ez1 => ?_)
  refine sf_iload rfl ?_
  refine sf_imull (n := 4) (by omega) (by omega) (fun v2 ev2 => ?_)
  refine sf_iload rfl ?_
  refine sf_iadd (by omega) (fun v3 ev3 => ?_)
  refine sf_istore (L' := [(0, .inl (.ref 71)), (1, .inl (.int a_d)), (2, .inl (.int a_k))]) rfl ?_
  refine sf_aload rfl ?_
  refine sf_getr hI0 rfl rfl ?_
  refine sf_iload rfl ?_
  refine sf_iald hI0 rfl (by omega) (fun v4 lv4 uv4 ev4 => ?_)
  refine sf_istore (L' := [(3, .inl (.int v3)), (0, .inl (.ref 71)), (1, .inl (.int a_d)), (2, .inl (.int a_k))]) rfl ?_
  refine sf_aload rfl ?_
  refine sf_getr hI0 rfl rfl ?_
  refine sf_iconst sf_c3 (fun z5 ez5 => ?_)
  refine sf_iload rfl ?_
  refine sf_imull (n := 3) (by omega) (by omega) (fun v6 ev6 => ?_)
  refine sf_iald hI0 rfl (by omega) (fun v7 lv7 uv7 ev7 => ?_)
  try (have r4 := sf_R4 hI0 (d := a_d) (k := a_k) (i := v6) (by omega) (by omega) (by omega))
  refine sf_i2lb (fun v8 ev8 lv8 uv8 => ?_)
  refine sf_lstore (L' := [(4, .inl (.int v4)), (3, .inl (.int v3)), (0, .inl (.ref 71)), (1, .inl (.int a_d)), (2, .inl (.int a_k))]) rfl ?_
  refine sf_aload rfl ?_
  refine sf_getr hI0 rfl rfl ?_
  refine sf_iload rfl ?_
  refine sf_iald hI0 rfl (by omega) (fun v9 lv9 uv9 ev9 => ?_)
  clear lv9 uv9
  clear ev9
  refine sf_i2lb (fun v10 ev10 lv10 uv10 => ?_)
  refine sf_aload rfl ?_
  refine sf_getr hI0 rfl rfl ?_
  refine sf_iload rfl ?_
  refine sf_lald hI0 rfl (by omega) (fun v11 ev11 => ?_)
  clear ev11
  refine sf_l2 (fun v12 => ?_)
  refine sf_lstore (L' := [(5, .inl (.long v8)), (4, .inl (.int v4)), (3, .inl (.int v3)), (0, .inl (.ref 71)), (1, .inl (.int a_d)), (2, .inl (.int a_k))]) rfl ?_
  refine sf_aload rfl ?_
  refine sf_getr hI0 rfl rfl ?_
  refine sf_iload rfl ?_
  refine sf_iald hI0 rfl (by omega) (fun v13 lv13 uv13 ev13 => ?_)
  clear lv13 uv13
  clear ev13
  refine sf_i2lb (fun v14 ev14 lv14 uv14 => ?_)
  refine sf_aload rfl ?_
  refine sf_getr hI0 rfl rfl ?_
  refine sf_iconst sf_c3 (fun z15 ez15 => ?_)
  refine sf_iload rfl ?_
  refine sf_imull (n := 3) (by omega) (by omega) (fun v16 ev16 => ?_)
  refine sf_iconst sf_c1 (fun z17 ez17 => ?_)
  refine sf_iadd (by omega) (fun v18 ev18 => ?_)
  refine sf_iald hI0 rfl (by omega) (fun v19 lv19 uv19 ev19 => ?_)
  try (have r4 := sf_R4 hI0 (d := a_d) (k := a_k) (i := v18) (by omega) (by omega) (by omega))
  refine sf_i2lb (fun v20 ev20 lv20 uv20 => ?_)
  refine sf_l2 (fun v21 => ?_)
  refine sf_lconst (by decide : (10000 : Int64).toInt = 10000) (fun z22 ez22 => ?_)
  refine sf_l2 (fun v23 => ?_)
  refine sf_lstore (L' := [(7, .inl (.long v12)), (5, .inl (.long v8)), (4, .inl (.int v4)), (3, .inl (.int v3)), (0, .inl (.ref 71)), (1, .inl (.int a_d)), (2, .inl (.int a_k))]) rfl ?_
  refine sf_aload rfl ?_
  refine sf_getr hI0 rfl rfl ?_
  refine sf_iload rfl ?_
  refine sf_iald hI0 rfl (by omega) (fun v24 lv24 uv24 ev24 => ?_)
  clear lv24 uv24
  clear ev24
  refine sf_f1_eq (fun h25 => ?_) (fun h25 => ?_)
  · refine sf_lload rfl ?_
    refine sf_lstore (L' := [(9, .inl (.long v23)), (7, .inl (.long v12)), (5, .inl (.long v8)), (4, .inl (.int v4)), (3, .inl (.int v3)), (0, .inl (.ref 71)), (1, .inl (.int a_d)), (2, .inl (.int a_k))]) rfl ?_
    refine sf_lload rfl ?_
    refine sf_lload rfl ?_
    refine sf_aload rfl ?_
    refine sf_getr hI0 rfl rfl ?_
    refine sf_iload rfl ?_
    refine sf_iald hI0 rfl (by omega) (fun v26 lv26 uv26 ev26 => ?_)
    clear lv26 uv26
    clear ev26
    refine sf_i2lb (fun v27 ev27 lv27 uv27 => ?_)
    refine sf_l2 (fun v28 => ?_)
    refine sf_l2 (fun v29 => ?_)
    refine sf_lstore (L' := [(11, .inl (.long v12)), (9, .inl (.long v23)), (7, .inl (.long v12)), (5, .inl (.long v8)), (4, .inl (.int v4)), (3, .inl (.int v3)), (0, .inl (.ref 71)), (1, .inl (.int a_d)), (2, .inl (.int a_k))]) rfl ?_
    refine sf_aload rfl ?_
    refine sf_getr hI0 rfl rfl ?_
    refine sf_iload rfl ?_
    refine sf_iald hI0 rfl (by omega) (fun v30 lv30 uv30 ev30 => ?_)
    refine sf_f1_ge (fun h31 => ?_) (fun h31 => ?_)
    · refine sf_lload rfl ?_
      refine sf_aload rfl ?_
      refine sf_getr hI0 rfl rfl ?_
      refine sf_aload rfl ?_
      refine sf_getr hI0 rfl rfl ?_
      refine sf_iload rfl ?_
      refine sf_iald hI0 rfl (by omega) (fun v32 lv32 uv32 ev32 => ?_)
      refine sf_iald hI0 rfl (by omega) (fun v33 lv33 uv33 ev33 => ?_)
      clear lv33 uv33
      clear ev33
      refine sf_i2lb (fun v34 ev34 lv34 uv34 => ?_)
      refine sf_aload rfl ?_
      refine sf_getr hI0 rfl rfl ?_
      refine sf_iload rfl ?_
      refine sf_lald hI0 rfl (by omega) (fun v35 ev35 => ?_)
      clear ev35
      refine sf_l2 (fun v36 => ?_)
      refine sf_aload rfl ?_
      refine sf_getr hI0 rfl rfl ?_
      refine sf_iload rfl ?_
      refine sf_iald hI0 rfl (by omega) (fun v37 lv37 uv37 ev37 => ?_)
      clear lv37 uv37
      clear ev37
      refine sf_i2lb (fun v38 ev38 lv38 uv38 => ?_)
      refine sf_l2 (fun v39 => ?_)
      refine sf_l2 (fun v40 => ?_)
      refine sf_lstore (L' := [(11, .inl (.long v12)), (9, .inl (.long v23)), (7, .inl (.long v12)), (5, .inl (.long v8)), (4, .inl (.int v4)), (3, .inl (.int v3)), (0, .inl (.ref 71)), (1, .inl (.int a_d)), (2, .inl (.int a_k))]) rfl ?_
      refine sf_lload rfl ?_
      refine sf_lconst (by decide : (10000 : Int64).toInt = 10000) (fun z41 ez41 => ?_)
      refine sf_lload rfl ?_
      refine sf_lmull (n := 10000) (by omega) (by omega) (fun v42 ev42 => ?_)
      refine sf_l2d (by omega) (fun v43 => ?_)
      refine sf_lstore (L' := [(13, .inl (.long v40)), (11, .inl (.long v12)), (9, .inl (.long v23)), (7, .inl (.long v12)), (5, .inl (.long v8)), (4, .inl (.int v4)), (3, .inl (.int v3)), (0, .inl (.ref 71)), (1, .inl (.int a_d)), (2, .inl (.int a_k))]) rfl ?_
      refine sf_lload rfl ?_
      refine sf_lconst (by decide : (10000 : Int64).toInt = 10000) (fun z44 ez44 => ?_)
      refine sf_lload rfl ?_
      refine sf_lmull (n := 10000) (by omega) (by omega) (fun v45 ev45 => ?_)
      refine sf_l2d (by omega) (fun v46 => ?_)
      refine sf_lstore (L' := [(15, .inl (.long v43)), (13, .inl (.long v40)), (11, .inl (.long v12)), (9, .inl (.long v23)), (7, .inl (.long v12)), (5, .inl (.long v8)), (4, .inl (.int v4)), (3, .inl (.int v3)), (0, .inl (.ref 71)), (1, .inl (.int a_d)), (2, .inl (.int a_k))]) rfl ?_
      refine sf_lconst (by decide : (2 : Int64).toInt = 2) (fun z47 ez47 => ?_)
      refine sf_lload rfl ?_
      refine sf_l2 (fun v48 => ?_)
      refine sf_lconst (by decide : (10000 : Int64).toInt = 10000) (fun z49 ez49 => ?_)
      refine sf_lload rfl ?_
      refine sf_lmull (n := 10000) (by omega) (by omega) (fun v50 ev50 => ?_)
      refine sf_fl_lt (fun h51 => ?_) (fun h51 => ?_)
      · refine sf_lload rfl ?_
        refine sf_lreturn rfl rfl ?_
        exact hR _ 
      · refine sf_lload rfl ?_
        refine sf_lconst (by decide : (1 : Int64).toInt = 1) (fun z52 ez52 => ?_)
        refine sf_l2 (fun v53 => ?_)
        refine sf_lreturn rfl rfl ?_
        exact hR _ 
    · refine sf_lload rfl ?_
      refine sf_lstore (L' := [(11, .inl (.long v12)), (9, .inl (.long v23)), (7, .inl (.long v12)), (5, .inl (.long v8)), (4, .inl (.int v4)), (3, .inl (.int v3)), (0, .inl (.ref 71)), (1, .inl (.int a_d)), (2, .inl (.int a_k))]) rfl ?_
      refine sf_lload rfl ?_
      refine sf_lconst (by decide : (10000 : Int64).toInt = 10000) (fun z54 ez54 => ?_)
      refine sf_lload rfl ?_
      refine sf_lmull (n := 10000) (by omega) (by omega) (fun v55 ev55 => ?_)
      refine sf_l2d (by omega) (fun v56 => ?_)
      refine sf_lstore (L' := [(13, .inl (.long v29)), (11, .inl (.long v12)), (9, .inl (.long v23)), (7, .inl (.long v12)), (5, .inl (.long v8)), (4, .inl (.int v4)), (3, .inl (.int v3)), (0, .inl (.ref 71)), (1, .inl (.int a_d)), (2, .inl (.int a_k))]) rfl ?_
      refine sf_lload rfl ?_
      refine sf_lconst (by decide : (10000 : Int64).toInt = 10000) (fun z57 ez57 => ?_)
      refine sf_lload rfl ?_
      refine sf_lmull (n := 10000) (by omega) (by omega) (fun v58 ev58 => ?_)
      refine sf_l2d (by omega) (fun v59 => ?_)
      refine sf_lstore (L' := [(15, .inl (.long v56)), (13, .inl (.long v29)), (11, .inl (.long v12)), (9, .inl (.long v23)), (7, .inl (.long v12)), (5, .inl (.long v8)), (4, .inl (.int v4)), (3, .inl (.int v3)), (0, .inl (.ref 71)), (1, .inl (.int a_d)), (2, .inl (.int a_k))]) rfl ?_
      refine sf_lconst (by decide : (2 : Int64).toInt = 2) (fun z60 ez60 => ?_)
      refine sf_lload rfl ?_
      refine sf_l2 (fun v61 => ?_)
      refine sf_lconst (by decide : (10000 : Int64).toInt = 10000) (fun z62 ez62 => ?_)
      refine sf_lload rfl ?_
      refine sf_lmull (n := 10000) (by omega) (by omega) (fun v63 ev63 => ?_)
      refine sf_fl_lt (fun h64 => ?_) (fun h64 => ?_)
      · refine sf_lload rfl ?_
        refine sf_lreturn rfl rfl ?_
        exact hR _ 
      · refine sf_lload rfl ?_
        refine sf_lconst (by decide : (1 : Int64).toInt = 1) (fun z65 ez65 => ?_)
        refine sf_l2 (fun v66 => ?_)
        refine sf_lreturn rfl rfl ?_
        exact hR _ 
  · refine sf_aload rfl ?_
    refine sf_getr hI0 rfl rfl ?_
    refine sf_iload rfl ?_
    refine sf_iald hI0 rfl (by omega) (fun v67 lv67 uv67 ev67 => ?_)
    clear lv67 uv67
    clear ev67
    refine sf_iconst sf_c1 (fun z68 ez68 => ?_)
    refine sf_f2_eq (fun h69 => ?_) (fun h69 => ?_)
    · refine sf_lload rfl ?_
      refine sf_lstore (L' := [(9, .inl (.long v23)), (7, .inl (.long v12)), (5, .inl (.long v8)), (4, .inl (.int v4)), (3, .inl (.int v3)), (0, .inl (.ref 71)), (1, .inl (.int a_d)), (2, .inl (.int a_k))]) rfl ?_
      refine sf_lload rfl ?_
      refine sf_lload rfl ?_
      refine sf_aload rfl ?_
      refine sf_getr hI0 rfl rfl ?_
      refine sf_iload rfl ?_
      refine sf_iald hI0 rfl (by omega) (fun v70 lv70 uv70 ev70 => ?_)
      clear lv70 uv70
      clear ev70
      refine sf_i2lb (fun v71 ev71 lv71 uv71 => ?_)
      refine sf_l2 (fun v72 => ?_)
      refine sf_l2 (fun v73 => ?_)
      refine sf_lstore (L' := [(11, .inl (.long v23)), (9, .inl (.long v23)), (7, .inl (.long v12)), (5, .inl (.long v8)), (4, .inl (.int v4)), (3, .inl (.int v3)), (0, .inl (.ref 71)), (1, .inl (.int a_d)), (2, .inl (.int a_k))]) rfl ?_
      refine sf_aload rfl ?_
      refine sf_getr hI0 rfl rfl ?_
      refine sf_iload rfl ?_
      refine sf_iald hI0 rfl (by omega) (fun v74 lv74 uv74 ev74 => ?_)
      refine sf_f1_ge (fun h75 => ?_) (fun h75 => ?_)
      · refine sf_lload rfl ?_
        refine sf_aload rfl ?_
        refine sf_getr hI0 rfl rfl ?_
        refine sf_aload rfl ?_
        refine sf_getr hI0 rfl rfl ?_
        refine sf_iload rfl ?_
        refine sf_iald hI0 rfl (by omega) (fun v76 lv76 uv76 ev76 => ?_)
        refine sf_iald hI0 rfl (by omega) (fun v77 lv77 uv77 ev77 => ?_)
        clear lv77 uv77
        clear ev77
        refine sf_i2lb (fun v78 ev78 lv78 uv78 => ?_)
        refine sf_aload rfl ?_
        refine sf_getr hI0 rfl rfl ?_
        refine sf_iload rfl ?_
        refine sf_lald hI0 rfl (by omega) (fun v79 ev79 => ?_)
        clear ev79
        refine sf_l2 (fun v80 => ?_)
        refine sf_aload rfl ?_
        refine sf_getr hI0 rfl rfl ?_
        refine sf_iload rfl ?_
        refine sf_iald hI0 rfl (by omega) (fun v81 lv81 uv81 ev81 => ?_)
        clear lv81 uv81
        clear ev81
        refine sf_i2lb (fun v82 ev82 lv82 uv82 => ?_)
        refine sf_l2 (fun v83 => ?_)
        refine sf_l2 (fun v84 => ?_)
        refine sf_lstore (L' := [(11, .inl (.long v23)), (9, .inl (.long v23)), (7, .inl (.long v12)), (5, .inl (.long v8)), (4, .inl (.int v4)), (3, .inl (.int v3)), (0, .inl (.ref 71)), (1, .inl (.int a_d)), (2, .inl (.int a_k))]) rfl ?_
        refine sf_lload rfl ?_
        refine sf_lconst (by decide : (10000 : Int64).toInt = 10000) (fun z85 ez85 => ?_)
        refine sf_lload rfl ?_
        refine sf_lmull (n := 10000) (by omega) (by omega) (fun v86 ev86 => ?_)
        refine sf_l2d (by omega) (fun v87 => ?_)
        refine sf_lstore (L' := [(13, .inl (.long v84)), (11, .inl (.long v23)), (9, .inl (.long v23)), (7, .inl (.long v12)), (5, .inl (.long v8)), (4, .inl (.int v4)), (3, .inl (.int v3)), (0, .inl (.ref 71)), (1, .inl (.int a_d)), (2, .inl (.int a_k))]) rfl ?_
        refine sf_lload rfl ?_
        refine sf_lconst (by decide : (10000 : Int64).toInt = 10000) (fun z88 ez88 => ?_)
        refine sf_lload rfl ?_
        refine sf_lmull (n := 10000) (by omega) (by omega) (fun v89 ev89 => ?_)
        refine sf_l2d (by omega) (fun v90 => ?_)
        refine sf_lstore (L' := [(15, .inl (.long v87)), (13, .inl (.long v84)), (11, .inl (.long v23)), (9, .inl (.long v23)), (7, .inl (.long v12)), (5, .inl (.long v8)), (4, .inl (.int v4)), (3, .inl (.int v3)), (0, .inl (.ref 71)), (1, .inl (.int a_d)), (2, .inl (.int a_k))]) rfl ?_
        refine sf_lconst (by decide : (2 : Int64).toInt = 2) (fun z91 ez91 => ?_)
        refine sf_lload rfl ?_
        refine sf_l2 (fun v92 => ?_)
        refine sf_lconst (by decide : (10000 : Int64).toInt = 10000) (fun z93 ez93 => ?_)
        refine sf_lload rfl ?_
        refine sf_lmull (n := 10000) (by omega) (by omega) (fun v94 ev94 => ?_)
        refine sf_fl_lt (fun h95 => ?_) (fun h95 => ?_)
        · refine sf_lload rfl ?_
          refine sf_lreturn rfl rfl ?_
          exact hR _ 
        · refine sf_lload rfl ?_
          refine sf_lconst (by decide : (1 : Int64).toInt = 1) (fun z96 ez96 => ?_)
          refine sf_l2 (fun v97 => ?_)
          refine sf_lreturn rfl rfl ?_
          exact hR _ 
      · refine sf_lload rfl ?_
        refine sf_lstore (L' := [(11, .inl (.long v23)), (9, .inl (.long v23)), (7, .inl (.long v12)), (5, .inl (.long v8)), (4, .inl (.int v4)), (3, .inl (.int v3)), (0, .inl (.ref 71)), (1, .inl (.int a_d)), (2, .inl (.int a_k))]) rfl ?_
        refine sf_lload rfl ?_
        refine sf_lconst (by decide : (10000 : Int64).toInt = 10000) (fun z98 ez98 => ?_)
        refine sf_lload rfl ?_
        refine sf_lmull (n := 10000) (by omega) (by omega) (fun v99 ev99 => ?_)
        refine sf_l2d (by omega) (fun v100 => ?_)
        refine sf_lstore (L' := [(13, .inl (.long v73)), (11, .inl (.long v23)), (9, .inl (.long v23)), (7, .inl (.long v12)), (5, .inl (.long v8)), (4, .inl (.int v4)), (3, .inl (.int v3)), (0, .inl (.ref 71)), (1, .inl (.int a_d)), (2, .inl (.int a_k))]) rfl ?_
        refine sf_lload rfl ?_
        refine sf_lconst (by decide : (10000 : Int64).toInt = 10000) (fun z101 ez101 => ?_)
        refine sf_lload rfl ?_
        refine sf_lmull (n := 10000) (by omega) (by omega) (fun v102 ev102 => ?_)
        refine sf_l2d (by omega) (fun v103 => ?_)
        refine sf_lstore (L' := [(15, .inl (.long v100)), (13, .inl (.long v73)), (11, .inl (.long v23)), (9, .inl (.long v23)), (7, .inl (.long v12)), (5, .inl (.long v8)), (4, .inl (.int v4)), (3, .inl (.int v3)), (0, .inl (.ref 71)), (1, .inl (.int a_d)), (2, .inl (.int a_k))]) rfl ?_
        refine sf_lconst (by decide : (2 : Int64).toInt = 2) (fun z104 ez104 => ?_)
        refine sf_lload rfl ?_
        refine sf_l2 (fun v105 => ?_)
        refine sf_lconst (by decide : (10000 : Int64).toInt = 10000) (fun z106 ez106 => ?_)
        refine sf_lload rfl ?_
        refine sf_lmull (n := 10000) (by omega) (by omega) (fun v107 ev107 => ?_)
        refine sf_fl_lt (fun h108 => ?_) (fun h108 => ?_)
        · refine sf_lload rfl ?_
          refine sf_lreturn rfl rfl ?_
          exact hR _ 
        · refine sf_lload rfl ?_
          refine sf_lconst (by decide : (1 : Int64).toInt = 1) (fun z109 ez109 => ?_)
          refine sf_l2 (fun v110 => ?_)
          refine sf_lreturn rfl rfl ?_
          exact hR _ 
    · refine sf_aload rfl ?_
      refine sf_getr hI0 rfl rfl ?_
      refine sf_iload rfl ?_
      refine sf_iald hI0 rfl (by omega) (fun v111 lv111 uv111 ev111 => ?_)
      clear lv111 uv111
      clear ev111
      refine sf_iconst sf_c3 (fun z112 ez112 => ?_)
      refine sf_f2_eq (fun h113 => ?_) (fun h113 => ?_)
      · refine sf_lload rfl ?_
        refine sf_lload rfl ?_
        refine sf_l2 (fun v114 => ?_)
        refine sf_lstore (L' := [(9, .inl (.long v23)), (7, .inl (.long v12)), (5, .inl (.long v8)), (4, .inl (.int v4)), (3, .inl (.int v3)), (0, .inl (.ref 71)), (1, .inl (.int a_d)), (2, .inl (.int a_k))]) rfl ?_
        refine sf_lload rfl ?_
        refine sf_lload rfl ?_
        refine sf_aload rfl ?_
        refine sf_getr hI0 rfl rfl ?_
        refine sf_iload rfl ?_
        refine sf_iald hI0 rfl (by omega) (fun v115 lv115 uv115 ev115 => ?_)
        clear lv115 uv115
        clear ev115
        refine sf_i2lb (fun v116 ev116 lv116 uv116 => ?_)
        refine sf_l2 (fun v117 => ?_)
        refine sf_l2 (fun v118 => ?_)
        refine sf_lstore (L' := [(11, .inl (.long v114)), (9, .inl (.long v23)), (7, .inl (.long v12)), (5, .inl (.long v8)), (4, .inl (.int v4)), (3, .inl (.int v3)), (0, .inl (.ref 71)), (1, .inl (.int a_d)), (2, .inl (.int a_k))]) rfl ?_
        refine sf_aload rfl ?_
        refine sf_getr hI0 rfl rfl ?_
        refine sf_iload rfl ?_
        refine sf_iald hI0 rfl (by omega) (fun v119 lv119 uv119 ev119 => ?_)
        refine sf_f1_ge (fun h120 => ?_) (fun h120 => ?_)
        · refine sf_lload rfl ?_
          refine sf_aload rfl ?_
          refine sf_getr hI0 rfl rfl ?_
          refine sf_aload rfl ?_
          refine sf_getr hI0 rfl rfl ?_
          refine sf_iload rfl ?_
          refine sf_iald hI0 rfl (by omega) (fun v121 lv121 uv121 ev121 => ?_)
          refine sf_iald hI0 rfl (by omega) (fun v122 lv122 uv122 ev122 => ?_)
          clear lv122 uv122
          clear ev122
          refine sf_i2lb (fun v123 ev123 lv123 uv123 => ?_)
          refine sf_aload rfl ?_
          refine sf_getr hI0 rfl rfl ?_
          refine sf_iload rfl ?_
          refine sf_lald hI0 rfl (by omega) (fun v124 ev124 => ?_)
          clear ev124
          refine sf_l2 (fun v125 => ?_)
          refine sf_aload rfl ?_
          refine sf_getr hI0 rfl rfl ?_
          refine sf_iload rfl ?_
          refine sf_iald hI0 rfl (by omega) (fun v126 lv126 uv126 ev126 => ?_)
          clear lv126 uv126
          clear ev126
          refine sf_i2lb (fun v127 ev127 lv127 uv127 => ?_)
          refine sf_l2 (fun v128 => ?_)
          refine sf_l2 (fun v129 => ?_)
          refine sf_lstore (L' := [(11, .inl (.long v114)), (9, .inl (.long v23)), (7, .inl (.long v12)), (5, .inl (.long v8)), (4, .inl (.int v4)), (3, .inl (.int v3)), (0, .inl (.ref 71)), (1, .inl (.int a_d)), (2, .inl (.int a_k))]) rfl ?_
          refine sf_lload rfl ?_
          refine sf_lconst (by decide : (10000 : Int64).toInt = 10000) (fun z130 ez130 => ?_)
          refine sf_lload rfl ?_
          refine sf_lmull (n := 10000) (by omega) (by omega) (fun v131 ev131 => ?_)
          refine sf_l2d (by omega) (fun v132 => ?_)
          refine sf_lstore (L' := [(13, .inl (.long v129)), (11, .inl (.long v114)), (9, .inl (.long v23)), (7, .inl (.long v12)), (5, .inl (.long v8)), (4, .inl (.int v4)), (3, .inl (.int v3)), (0, .inl (.ref 71)), (1, .inl (.int a_d)), (2, .inl (.int a_k))]) rfl ?_
          refine sf_lload rfl ?_
          refine sf_lconst (by decide : (10000 : Int64).toInt = 10000) (fun z133 ez133 => ?_)
          refine sf_lload rfl ?_
          refine sf_lmull (n := 10000) (by omega) (by omega) (fun v134 ev134 => ?_)
          refine sf_l2d (by omega) (fun v135 => ?_)
          refine sf_lstore (L' := [(15, .inl (.long v132)), (13, .inl (.long v129)), (11, .inl (.long v114)), (9, .inl (.long v23)), (7, .inl (.long v12)), (5, .inl (.long v8)), (4, .inl (.int v4)), (3, .inl (.int v3)), (0, .inl (.ref 71)), (1, .inl (.int a_d)), (2, .inl (.int a_k))]) rfl ?_
          refine sf_lconst (by decide : (2 : Int64).toInt = 2) (fun z136 ez136 => ?_)
          refine sf_lload rfl ?_
          refine sf_l2 (fun v137 => ?_)
          refine sf_lconst (by decide : (10000 : Int64).toInt = 10000) (fun z138 ez138 => ?_)
          refine sf_lload rfl ?_
          refine sf_lmull (n := 10000) (by omega) (by omega) (fun v139 ev139 => ?_)
          refine sf_fl_lt (fun h140 => ?_) (fun h140 => ?_)
          · refine sf_lload rfl ?_
            refine sf_lreturn rfl rfl ?_
            exact hR _ 
          · refine sf_lload rfl ?_
            refine sf_lconst (by decide : (1 : Int64).toInt = 1) (fun z141 ez141 => ?_)
            refine sf_l2 (fun v142 => ?_)
            refine sf_lreturn rfl rfl ?_
            exact hR _ 
        · refine sf_lload rfl ?_
          refine sf_lstore (L' := [(11, .inl (.long v114)), (9, .inl (.long v23)), (7, .inl (.long v12)), (5, .inl (.long v8)), (4, .inl (.int v4)), (3, .inl (.int v3)), (0, .inl (.ref 71)), (1, .inl (.int a_d)), (2, .inl (.int a_k))]) rfl ?_
          refine sf_lload rfl ?_
          refine sf_lconst (by decide : (10000 : Int64).toInt = 10000) (fun z143 ez143 => ?_)
          refine sf_lload rfl ?_
          refine sf_lmull (n := 10000) (by omega) (by omega) (fun v144 ev144 => ?_)
          refine sf_l2d (by omega) (fun v145 => ?_)
          refine sf_lstore (L' := [(13, .inl (.long v118)), (11, .inl (.long v114)), (9, .inl (.long v23)), (7, .inl (.long v12)), (5, .inl (.long v8)), (4, .inl (.int v4)), (3, .inl (.int v3)), (0, .inl (.ref 71)), (1, .inl (.int a_d)), (2, .inl (.int a_k))]) rfl ?_
          refine sf_lload rfl ?_
          refine sf_lconst (by decide : (10000 : Int64).toInt = 10000) (fun z146 ez146 => ?_)
          refine sf_lload rfl ?_
          refine sf_lmull (n := 10000) (by omega) (by omega) (fun v147 ev147 => ?_)
          refine sf_l2d (by omega) (fun v148 => ?_)
          refine sf_lstore (L' := [(15, .inl (.long v145)), (13, .inl (.long v118)), (11, .inl (.long v114)), (9, .inl (.long v23)), (7, .inl (.long v12)), (5, .inl (.long v8)), (4, .inl (.int v4)), (3, .inl (.int v3)), (0, .inl (.ref 71)), (1, .inl (.int a_d)), (2, .inl (.int a_k))]) rfl ?_
          refine sf_lconst (by decide : (2 : Int64).toInt = 2) (fun z149 ez149 => ?_)
          refine sf_lload rfl ?_
          refine sf_l2 (fun v150 => ?_)
          refine sf_lconst (by decide : (10000 : Int64).toInt = 10000) (fun z151 ez151 => ?_)
          refine sf_lload rfl ?_
          refine sf_lmull (n := 10000) (by omega) (by omega) (fun v152 ev152 => ?_)
          refine sf_fl_lt (fun h153 => ?_) (fun h153 => ?_)
          · refine sf_lload rfl ?_
            refine sf_lreturn rfl rfl ?_
            exact hR _ 
          · refine sf_lload rfl ?_
            refine sf_lconst (by decide : (1 : Int64).toInt = 1) (fun z154 ez154 => ?_)
            refine sf_l2 (fun v155 => ?_)
            refine sf_lreturn rfl rfl ?_
            exact hR _ 
      · refine sf_lload rfl ?_
        refine sf_lload rfl ?_
        refine sf_fl_le (fun h156 => ?_) (fun h156 => ?_)
        · refine sf_lload rfl ?_
          refine sf_lstore (L' := [(9, .inl (.long v23)), (7, .inl (.long v12)), (5, .inl (.long v8)), (4, .inl (.int v4)), (3, .inl (.int v3)), (0, .inl (.ref 71)), (1, .inl (.int a_d)), (2, .inl (.int a_k))]) rfl ?_
          refine sf_lload rfl ?_
          refine sf_lload rfl ?_
          refine sf_aload rfl ?_
          refine sf_getr hI0 rfl rfl ?_
          refine sf_iload rfl ?_
          refine sf_iald hI0 rfl (by omega) (fun v157 lv157 uv157 ev157 => ?_)
          clear lv157 uv157
          clear ev157
          refine sf_i2lb (fun v158 ev158 lv158 uv158 => ?_)
          refine sf_l2 (fun v159 => ?_)
          refine sf_l2 (fun v160 => ?_)
          refine sf_lstore (L' := [(11, .inl (.long v23)), (9, .inl (.long v23)), (7, .inl (.long v12)), (5, .inl (.long v8)), (4, .inl (.int v4)), (3, .inl (.int v3)), (0, .inl (.ref 71)), (1, .inl (.int a_d)), (2, .inl (.int a_k))]) rfl ?_
          refine sf_aload rfl ?_
          refine sf_getr hI0 rfl rfl ?_
          refine sf_iload rfl ?_
          refine sf_iald hI0 rfl (by omega) (fun v161 lv161 uv161 ev161 => ?_)
          refine sf_f1_ge (fun h162 => ?_) (fun h162 => ?_)
          · refine sf_lload rfl ?_
            refine sf_aload rfl ?_
            refine sf_getr hI0 rfl rfl ?_
            refine sf_aload rfl ?_
            refine sf_getr hI0 rfl rfl ?_
            refine sf_iload rfl ?_
            refine sf_iald hI0 rfl (by omega) (fun v163 lv163 uv163 ev163 => ?_)
            refine sf_iald hI0 rfl (by omega) (fun v164 lv164 uv164 ev164 => ?_)
            clear lv164 uv164
            clear ev164
            refine sf_i2lb (fun v165 ev165 lv165 uv165 => ?_)
            refine sf_aload rfl ?_
            refine sf_getr hI0 rfl rfl ?_
            refine sf_iload rfl ?_
            refine sf_lald hI0 rfl (by omega) (fun v166 ev166 => ?_)
            clear ev166
            refine sf_l2 (fun v167 => ?_)
            refine sf_aload rfl ?_
            refine sf_getr hI0 rfl rfl ?_
            refine sf_iload rfl ?_
            refine sf_iald hI0 rfl (by omega) (fun v168 lv168 uv168 ev168 => ?_)
            clear lv168 uv168
            clear ev168
            refine sf_i2lb (fun v169 ev169 lv169 uv169 => ?_)
            refine sf_l2 (fun v170 => ?_)
            refine sf_l2 (fun v171 => ?_)
            refine sf_lstore (L' := [(11, .inl (.long v23)), (9, .inl (.long v23)), (7, .inl (.long v12)), (5, .inl (.long v8)), (4, .inl (.int v4)), (3, .inl (.int v3)), (0, .inl (.ref 71)), (1, .inl (.int a_d)), (2, .inl (.int a_k))]) rfl ?_
            refine sf_lload rfl ?_
            refine sf_lconst (by decide : (10000 : Int64).toInt = 10000) (fun z172 ez172 => ?_)
            refine sf_lload rfl ?_
            refine sf_lmull (n := 10000) (by omega) (by omega) (fun v173 ev173 => ?_)
            refine sf_l2d (by omega) (fun v174 => ?_)
            refine sf_lstore (L' := [(13, .inl (.long v171)), (11, .inl (.long v23)), (9, .inl (.long v23)), (7, .inl (.long v12)), (5, .inl (.long v8)), (4, .inl (.int v4)), (3, .inl (.int v3)), (0, .inl (.ref 71)), (1, .inl (.int a_d)), (2, .inl (.int a_k))]) rfl ?_
            refine sf_lload rfl ?_
            refine sf_lconst (by decide : (10000 : Int64).toInt = 10000) (fun z175 ez175 => ?_)
            refine sf_lload rfl ?_
            refine sf_lmull (n := 10000) (by omega) (by omega) (fun v176 ev176 => ?_)
            refine sf_l2d (by omega) (fun v177 => ?_)
            refine sf_lstore (L' := [(15, .inl (.long v174)), (13, .inl (.long v171)), (11, .inl (.long v23)), (9, .inl (.long v23)), (7, .inl (.long v12)), (5, .inl (.long v8)), (4, .inl (.int v4)), (3, .inl (.int v3)), (0, .inl (.ref 71)), (1, .inl (.int a_d)), (2, .inl (.int a_k))]) rfl ?_
            refine sf_lconst (by decide : (2 : Int64).toInt = 2) (fun z178 ez178 => ?_)
            refine sf_lload rfl ?_
            refine sf_l2 (fun v179 => ?_)
            refine sf_lconst (by decide : (10000 : Int64).toInt = 10000) (fun z180 ez180 => ?_)
            refine sf_lload rfl ?_
            refine sf_lmull (n := 10000) (by omega) (by omega) (fun v181 ev181 => ?_)
            refine sf_fl_lt (fun h182 => ?_) (fun h182 => ?_)
            · refine sf_lload rfl ?_
              refine sf_lreturn rfl rfl ?_
              exact hR _ 
            · refine sf_lload rfl ?_
              refine sf_lconst (by decide : (1 : Int64).toInt = 1) (fun z183 ez183 => ?_)
              refine sf_l2 (fun v184 => ?_)
              refine sf_lreturn rfl rfl ?_
              exact hR _ 
          · refine sf_lload rfl ?_
            refine sf_lstore (L' := [(11, .inl (.long v23)), (9, .inl (.long v23)), (7, .inl (.long v12)), (5, .inl (.long v8)), (4, .inl (.int v4)), (3, .inl (.int v3)), (0, .inl (.ref 71)), (1, .inl (.int a_d)), (2, .inl (.int a_k))]) rfl ?_
            refine sf_lload rfl ?_
            refine sf_lconst (by decide : (10000 : Int64).toInt = 10000) (fun z185 ez185 => ?_)
            refine sf_lload rfl ?_
            refine sf_lmull (n := 10000) (by omega) (by omega) (fun v186 ev186 => ?_)
            refine sf_l2d (by omega) (fun v187 => ?_)
            refine sf_lstore (L' := [(13, .inl (.long v160)), (11, .inl (.long v23)), (9, .inl (.long v23)), (7, .inl (.long v12)), (5, .inl (.long v8)), (4, .inl (.int v4)), (3, .inl (.int v3)), (0, .inl (.ref 71)), (1, .inl (.int a_d)), (2, .inl (.int a_k))]) rfl ?_
            refine sf_lload rfl ?_
            refine sf_lconst (by decide : (10000 : Int64).toInt = 10000) (fun z188 ez188 => ?_)
            refine sf_lload rfl ?_
            refine sf_lmull (n := 10000) (by omega) (by omega) (fun v189 ev189 => ?_)
            refine sf_l2d (by omega) (fun v190 => ?_)
            refine sf_lstore (L' := [(15, .inl (.long v187)), (13, .inl (.long v160)), (11, .inl (.long v23)), (9, .inl (.long v23)), (7, .inl (.long v12)), (5, .inl (.long v8)), (4, .inl (.int v4)), (3, .inl (.int v3)), (0, .inl (.ref 71)), (1, .inl (.int a_d)), (2, .inl (.int a_k))]) rfl ?_
            refine sf_lconst (by decide : (2 : Int64).toInt = 2) (fun z191 ez191 => ?_)
            refine sf_lload rfl ?_
            refine sf_l2 (fun v192 => ?_)
            refine sf_lconst (by decide : (10000 : Int64).toInt = 10000) (fun z193 ez193 => ?_)
            refine sf_lload rfl ?_
            refine sf_lmull (n := 10000) (by omega) (by omega) (fun v194 ev194 => ?_)
            refine sf_fl_lt (fun h195 => ?_) (fun h195 => ?_)
            · refine sf_lload rfl ?_
              refine sf_lreturn rfl rfl ?_
              exact hR _ 
            · refine sf_lload rfl ?_
              refine sf_lconst (by decide : (1 : Int64).toInt = 1) (fun z196 ez196 => ?_)
              refine sf_l2 (fun v197 => ?_)
              refine sf_lreturn rfl rfl ?_
              exact hR _ 
        · refine sf_lload rfl ?_
          refine sf_lstore (L' := [(9, .inl (.long v23)), (7, .inl (.long v12)), (5, .inl (.long v8)), (4, .inl (.int v4)), (3, .inl (.int v3)), (0, .inl (.ref 71)), (1, .inl (.int a_d)), (2, .inl (.int a_k))]) rfl ?_
          refine sf_lload rfl ?_
          refine sf_lload rfl ?_
          refine sf_aload rfl ?_
          refine sf_getr hI0 rfl rfl ?_
          refine sf_iload rfl ?_
          refine sf_iald hI0 rfl (by omega) (fun v198 lv198 uv198 ev198 => ?_)
          clear lv198 uv198
          clear ev198
          refine sf_i2lb (fun v199 ev199 lv199 uv199 => ?_)
          refine sf_l2 (fun v200 => ?_)
          refine sf_l2 (fun v201 => ?_)
          refine sf_lstore (L' := [(11, .inl (.long v12)), (9, .inl (.long v23)), (7, .inl (.long v12)), (5, .inl (.long v8)), (4, .inl (.int v4)), (3, .inl (.int v3)), (0, .inl (.ref 71)), (1, .inl (.int a_d)), (2, .inl (.int a_k))]) rfl ?_
          refine sf_aload rfl ?_
          refine sf_getr hI0 rfl rfl ?_
          refine sf_iload rfl ?_
          refine sf_iald hI0 rfl (by omega) (fun v202 lv202 uv202 ev202 => ?_)
          refine sf_f1_ge (fun h203 => ?_) (fun h203 => ?_)
          · refine sf_lload rfl ?_
            refine sf_aload rfl ?_
            refine sf_getr hI0 rfl rfl ?_
            refine sf_aload rfl ?_
            refine sf_getr hI0 rfl rfl ?_
            refine sf_iload rfl ?_
            refine sf_iald hI0 rfl (by omega) (fun v204 lv204 uv204 ev204 => ?_)
            refine sf_iald hI0 rfl (by omega) (fun v205 lv205 uv205 ev205 => ?_)
            clear lv205 uv205
            clear ev205
            refine sf_i2lb (fun v206 ev206 lv206 uv206 => ?_)
            refine sf_aload rfl ?_
            refine sf_getr hI0 rfl rfl ?_
            refine sf_iload rfl ?_
            refine sf_lald hI0 rfl (by omega) (fun v207 ev207 => ?_)
            clear ev207
            refine sf_l2 (fun v208 => ?_)
            refine sf_aload rfl ?_
            refine sf_getr hI0 rfl rfl ?_
            refine sf_iload rfl ?_
            refine sf_iald hI0 rfl (by omega) (fun v209 lv209 uv209 ev209 => ?_)
            clear lv209 uv209
            clear ev209
            refine sf_i2lb (fun v210 ev210 lv210 uv210 => ?_)
            refine sf_l2 (fun v211 => ?_)
            refine sf_l2 (fun v212 => ?_)
            refine sf_lstore (L' := [(11, .inl (.long v12)), (9, .inl (.long v23)), (7, .inl (.long v12)), (5, .inl (.long v8)), (4, .inl (.int v4)), (3, .inl (.int v3)), (0, .inl (.ref 71)), (1, .inl (.int a_d)), (2, .inl (.int a_k))]) rfl ?_
            refine sf_lload rfl ?_
            refine sf_lconst (by decide : (10000 : Int64).toInt = 10000) (fun z213 ez213 => ?_)
            refine sf_lload rfl ?_
            refine sf_lmull (n := 10000) (by omega) (by omega) (fun v214 ev214 => ?_)
            refine sf_l2d (by omega) (fun v215 => ?_)
            refine sf_lstore (L' := [(13, .inl (.long v212)), (11, .inl (.long v12)), (9, .inl (.long v23)), (7, .inl (.long v12)), (5, .inl (.long v8)), (4, .inl (.int v4)), (3, .inl (.int v3)), (0, .inl (.ref 71)), (1, .inl (.int a_d)), (2, .inl (.int a_k))]) rfl ?_
            refine sf_lload rfl ?_
            refine sf_lconst (by decide : (10000 : Int64).toInt = 10000) (fun z216 ez216 => ?_)
            refine sf_lload rfl ?_
            refine sf_lmull (n := 10000) (by omega) (by omega) (fun v217 ev217 => ?_)
            refine sf_l2d (by omega) (fun v218 => ?_)
            refine sf_lstore (L' := [(15, .inl (.long v215)), (13, .inl (.long v212)), (11, .inl (.long v12)), (9, .inl (.long v23)), (7, .inl (.long v12)), (5, .inl (.long v8)), (4, .inl (.int v4)), (3, .inl (.int v3)), (0, .inl (.ref 71)), (1, .inl (.int a_d)), (2, .inl (.int a_k))]) rfl ?_
            refine sf_lconst (by decide : (2 : Int64).toInt = 2) (fun z219 ez219 => ?_)
            refine sf_lload rfl ?_
            refine sf_l2 (fun v220 => ?_)
            refine sf_lconst (by decide : (10000 : Int64).toInt = 10000) (fun z221 ez221 => ?_)
            refine sf_lload rfl ?_
            refine sf_lmull (n := 10000) (by omega) (by omega) (fun v222 ev222 => ?_)
            refine sf_fl_lt (fun h223 => ?_) (fun h223 => ?_)
            · refine sf_lload rfl ?_
              refine sf_lreturn rfl rfl ?_
              exact hR _ 
            · refine sf_lload rfl ?_
              refine sf_lconst (by decide : (1 : Int64).toInt = 1) (fun z224 ez224 => ?_)
              refine sf_l2 (fun v225 => ?_)
              refine sf_lreturn rfl rfl ?_
              exact hR _ 
          · refine sf_lload rfl ?_
            refine sf_lstore (L' := [(11, .inl (.long v12)), (9, .inl (.long v23)), (7, .inl (.long v12)), (5, .inl (.long v8)), (4, .inl (.int v4)), (3, .inl (.int v3)), (0, .inl (.ref 71)), (1, .inl (.int a_d)), (2, .inl (.int a_k))]) rfl ?_
            refine sf_lload rfl ?_
            refine sf_lconst (by decide : (10000 : Int64).toInt = 10000) (fun z226 ez226 => ?_)
            refine sf_lload rfl ?_
            refine sf_lmull (n := 10000) (by omega) (by omega) (fun v227 ev227 => ?_)
            refine sf_l2d (by omega) (fun v228 => ?_)
            refine sf_lstore (L' := [(13, .inl (.long v201)), (11, .inl (.long v12)), (9, .inl (.long v23)), (7, .inl (.long v12)), (5, .inl (.long v8)), (4, .inl (.int v4)), (3, .inl (.int v3)), (0, .inl (.ref 71)), (1, .inl (.int a_d)), (2, .inl (.int a_k))]) rfl ?_
            refine sf_lload rfl ?_
            refine sf_lconst (by decide : (10000 : Int64).toInt = 10000) (fun z229 ez229 => ?_)
            refine sf_lload rfl ?_
            refine sf_lmull (n := 10000) (by omega) (by omega) (fun v230 ev230 => ?_)
            refine sf_l2d (by omega) (fun v231 => ?_)
            refine sf_lstore (L' := [(15, .inl (.long v228)), (13, .inl (.long v201)), (11, .inl (.long v12)), (9, .inl (.long v23)), (7, .inl (.long v12)), (5, .inl (.long v8)), (4, .inl (.int v4)), (3, .inl (.int v3)), (0, .inl (.ref 71)), (1, .inl (.int a_d)), (2, .inl (.int a_k))]) rfl ?_
            refine sf_lconst (by decide : (2 : Int64).toInt = 2) (fun z232 ez232 => ?_)
            refine sf_lload rfl ?_
            refine sf_l2 (fun v233 => ?_)
            refine sf_lconst (by decide : (10000 : Int64).toInt = 10000) (fun z234 ez234 => ?_)
            refine sf_lload rfl ?_
            refine sf_lmull (n := 10000) (by omega) (by omega) (fun v235 ev235 => ?_)
            refine sf_fl_lt (fun h236 => ?_) (fun h236 => ?_)
            · refine sf_lload rfl ?_
              refine sf_lreturn rfl rfl ?_
              exact hR _ 
            · refine sf_lload rfl ?_
              refine sf_lconst (by decide : (1 : Int64).toInt = 1) (fun z237 ez237 => ?_)
              refine sf_l2 (fun v238 => ?_)
              refine sf_lreturn rfl rfl ?_
              exact hR _ 
def sm_M_workOut : List Nat := [92, 111, 112, 119, 120]
set_option maxRecDepth 100000 in
set_option maxHeartbeats 4000000 in
theorem sc_M_workOut {w0 : wq_W} (hI0 : sf_I w0) {rt : Option wq_V → wq_W → Prop} {xt : Nat → wq_W → Prop} {a_d : Int32} (p0 : 0 ≤ a_d.toInt) (p1 : a_d.toInt ≤ 11) (p2 : ∀ k : Nat, (k : Int) < (sf_a w0 104 a_d.toInt.toNat).toInt → 0 ≤ (sf_a w0 117 k).toInt) (hR : ∀ (r : Int64) (w : wq_W), sf_I w → sf_m sm_M_workOut w0 w → rt (some (.inl (.long r))) w) : ks_M_workOut [.inl (.ref 71), .inl (.int a_d)] w0 rt xt := by
  have hs0 : sf_m sm_M_workOut w0 w0 := sf_m0
  have hl : ∀ n : Nat, (∀ (w : wq_W) (x2 : Int64) (x4 : Int32), (sf_I w) → (sf_m sm_M_workOut w0 w) → (0 ≤ x4.toInt) → (x4.toInt ≤ 4) → (4 - x4.toInt < (n : Int)) → ku_M_workOut rt xt n 10 [(0, .inl (.ref 71)), (1, .inl (.int a_d)), (2, .inl (.long x2)), (4, .inl (.int x4))] [] w 0 0) := by
    intro n
    induction n with
    | zero =>
      refine ?_
      · intros; omega
    | succ n ih =>
      have i_10 := ih
      intro w x2 x4 I_w s_w l_x4 u_x4 hm
      show kh_M_workOut_10 rt xt (ku_M_workOut rt xt n) [(0, .inl (.ref 71)), (1, .inl (.int a_d)), (2, .inl (.long x2)), (4, .inl (.int x4))] [] w 0 0
      generalize ku_M_workOut rt xt n = K at i_10 ⊢
      refine sf_iload rfl ?_
      refine sf_aload rfl ?_
      refine sf_getr I_w rfl rfl ?_
      refine sf_iload rfl ?_
      refine sf_iald I_w rfl (by omega) (fun v1 lv1 uv1 ev1 => ?_)
      rw [sf_ma s_w (p := 104) rfl] at ev1
      refine sf_f2_ge (fun h2 => ?_) (fun h2 => ?_)
      · refine sf_lload rfl ?_
        refine sf_lreturn rfl rfl ?_
        exact hR _ _ I_w s_w 
      · refine sf_aload rfl ?_
        refine sf_getr I_w rfl rfl ?_
        refine sf_iload rfl ?_
        refine sf_iald I_w rfl (by omega) (fun v3 lv3 uv3 ev3 => ?_)
        rw [sf_ma s_w (p := 118) rfl] at ev3
        refine sf_istore (L' := [(0, .inl (.ref 71)), (1, .inl (.int a_d)), (2, .inl (.long x2)), (4, .inl (.int x4))]) rfl ?_
        refine sf_aload rfl ?_
        refine sf_getr I_w rfl rfl ?_
        refine sf_iconst sf_c3 (fun z4 ez4 => ?_)
        refine sf_iconst sf_c4 (fun z5 ez5 => ?_)
        refine sf_iload rfl ?_
        refine sf_imull (n := 4) (by omega) (by omega) (fun v6 ev6 => ?_)
        refine sf_iload rfl ?_
        refine sf_iadd (by omega) (fun v7 ev7 => ?_)
        refine sf_imull (n := 3) (by omega) (by omega) (fun v8 ev8 => ?_)
        refine sf_iald I_w rfl (by omega) (fun v9 lv9 uv9 ev9 => ?_)
        rw [sf_ma s_w (p := 110) rfl] at ev9
        refine sf_aload rfl ?_
        refine sf_getr I_w rfl rfl ?_
        refine sf_iload rfl ?_
        refine sf_iald I_w rfl (by omega) (fun v10 lv10 uv10 ev10 => ?_)
        clear lv10 uv10
        clear ev10
        refine sf_i2 (fun v11 => ?_)
        refine sf_istore (L' := [(5, .inl (.int v3)), (0, .inl (.ref 71)), (1, .inl (.int a_d)), (2, .inl (.long x2)), (4, .inl (.int x4))]) rfl ?_
        refine sf_iload rfl ?_
        refine sf_f1_ge (fun h12 => ?_) (fun h12 => ?_)
        · refine sf_iload rfl ?_
          refine sf_aload rfl ?_
          refine sf_getr I_w rfl rfl ?_
          refine sf_iload rfl ?_
          refine sf_iald I_w rfl (by omega) (fun v13 lv13 uv13 ev13 => ?_)
          clear lv13 uv13
          clear ev13
          refine sf_f2_ge (fun h14 => ?_) (fun h14 => ?_)
          · refine sf_aload rfl ?_
            refine sf_getr I_w rfl rfl ?_
            refine sf_iload rfl ?_
            refine sf_iald I_w rfl (by omega) (fun v15 lv15 uv15 ev15 => ?_)
            clear lv15 uv15
            clear ev15
            refine sf_istore (L' := [(6, .inl (.int v11)), (5, .inl (.int v3)), (0, .inl (.ref 71)), (1, .inl (.int a_d)), (2, .inl (.long x2)), (4, .inl (.int x4))]) rfl ?_
            refine sf_aload rfl ?_
            refine sf_getr I_w rfl rfl ?_
            refine sf_iload rfl ?_
            refine sf_aload rfl ?_
            refine sf_getr I_w rfl rfl ?_
            refine sf_iload rfl ?_
            refine sf_iald I_w rfl (by omega) (fun v16 lv16 uv16 ev16 => ?_)
            clear lv16 uv16
            clear ev16
            refine sf_iload rfl ?_
            refine sf_i2 (fun v17 => ?_)
            refine sf_iast I_w s_w rfl (by omega) (sf_bd _) rfl rfl (fun w18 Iw18 sw18 kw18 uw18 => ?_)
            clear kw18 uw18
            refine sf_iload rfl ?_
            refine sf_f1_lt (fun h19 => absurd h19 (by omega)) (fun h19 => ?_)
            refine sf_aload rfl ?_
            refine sf_getr Iw18 rfl rfl ?_
            refine sf_iload rfl ?_
            refine sf_aload rfl ?_
            refine sf_getr Iw18 rfl rfl ?_
            refine sf_iload rfl ?_
            refine sf_iald Iw18 rfl (by omega) (fun v20 lv20 uv20 ev20 => ?_)
            clear lv20 uv20
            clear ev20
            refine sf_iload rfl ?_
            refine sf_i2 (fun v21 => ?_)
            refine sf_iast Iw18 sw18 rfl (by omega) (sf_bd _) rfl rfl (fun w22 Iw22 sw22 kw22 uw22 => ?_)
            clear kw22 uw22
            refine sf_aload rfl ?_
            refine sf_getr Iw22 rfl rfl ?_
            refine sf_iload rfl ?_
            refine sf_aload rfl ?_
            refine sf_iload rfl ?_
            refine sf_iload rfl ?_
            refine sf_call3 rfl rfl rfl ?_
            refine sf_rv Iw22 rfl ?_
            refine sc_M_dutyOf Iw22 (by omega) (by omega) (by omega) (by omega) (by rw [sf_ma sw22 (p := 104) rfl]; omega) (by rw [sf_ma sw22 (p := 117) rfl]; exact p2 _ (by omega)) (fun v23 => ?_)
            refine sf_last Iw22 sw22 rfl (by omega) rfl rfl (fun w25 Iw25 sw25 kw25 uw25 => ?_)
            clear kw25 uw25
            refine sf_lload rfl ?_
            refine sf_aload rfl ?_
            refine sf_getr Iw25 rfl rfl ?_
            refine sf_iload rfl ?_
            refine sf_lald Iw25 rfl (by omega) (fun v26 ev26 => ?_)
            clear ev26
            refine sf_l2 (fun v27 => ?_)
            refine sf_lstore (L' := [(7, .inl (.int v15)), (6, .inl (.int v11)), (5, .inl (.int v3)), (0, .inl (.ref 71)), (1, .inl (.int a_d)), (4, .inl (.int x4))]) rfl ?_
            refine sf_iinc (L' := [(2, .inl (.long v27)), (7, .inl (.int v15)), (6, .inl (.int v11)), (5, .inl (.int v3)), (0, .inl (.ref 71)), (1, .inl (.int a_d))]) sf_c1 rfl rfl (by omega) (fun v28 ev28 => ?_)
            refine sf_can (L' := [(0, .inl (.ref 71)), (1, .inl (.int a_d)), (2, .inl (.long v27)), (4, .inl (.int v28))]) rfl ?_
            exact i_10 w25 v27 v28 Iw25 sw25 (by omega) (by omega) (by omega)
          · refine sf_iload rfl ?_
            refine sf_istore (L' := [(6, .inl (.int v11)), (5, .inl (.int v3)), (0, .inl (.ref 71)), (1, .inl (.int a_d)), (2, .inl (.long x2)), (4, .inl (.int x4))]) rfl ?_
            refine sf_aload rfl ?_
            refine sf_getr I_w rfl rfl ?_
            refine sf_iload rfl ?_
            refine sf_aload rfl ?_
            refine sf_getr I_w rfl rfl ?_
            refine sf_iload rfl ?_
            refine sf_iald I_w rfl (by omega) (fun v29 lv29 uv29 ev29 => ?_)
            clear lv29 uv29
            clear ev29
            refine sf_iload rfl ?_
            refine sf_i2 (fun v30 => ?_)
            refine sf_iast I_w s_w rfl (by omega) (sf_bd _) rfl rfl (fun w31 Iw31 sw31 kw31 uw31 => ?_)
            clear kw31 uw31
            refine sf_iload rfl ?_
            refine sf_f1_lt (fun h32 => absurd h32 (by omega)) (fun h32 => ?_)
            refine sf_aload rfl ?_
            refine sf_getr Iw31 rfl rfl ?_
            refine sf_iload rfl ?_
            refine sf_aload rfl ?_
            refine sf_getr Iw31 rfl rfl ?_
            refine sf_iload rfl ?_
            refine sf_iald Iw31 rfl (by omega) (fun v33 lv33 uv33 ev33 => ?_)
            clear lv33 uv33
            clear ev33
            refine sf_iload rfl ?_
            refine sf_i2 (fun v34 => ?_)
            refine sf_iast Iw31 sw31 rfl (by omega) (sf_bd _) rfl rfl (fun w35 Iw35 sw35 kw35 uw35 => ?_)
            clear kw35 uw35
            refine sf_aload rfl ?_
            refine sf_getr Iw35 rfl rfl ?_
            refine sf_iload rfl ?_
            refine sf_aload rfl ?_
            refine sf_iload rfl ?_
            refine sf_iload rfl ?_
            refine sf_call3 rfl rfl rfl ?_
            refine sf_rv Iw35 rfl ?_
            refine sc_M_dutyOf Iw35 (by omega) (by omega) (by omega) (by omega) (by rw [sf_ma sw35 (p := 104) rfl]; omega) (by rw [sf_ma sw35 (p := 117) rfl]; exact p2 _ (by omega)) (fun v36 => ?_)
            refine sf_last Iw35 sw35 rfl (by omega) rfl rfl (fun w38 Iw38 sw38 kw38 uw38 => ?_)
            clear kw38 uw38
            refine sf_lload rfl ?_
            refine sf_aload rfl ?_
            refine sf_getr Iw38 rfl rfl ?_
            refine sf_iload rfl ?_
            refine sf_lald Iw38 rfl (by omega) (fun v39 ev39 => ?_)
            clear ev39
            refine sf_l2 (fun v40 => ?_)
            refine sf_lstore (L' := [(7, .inl (.int v11)), (6, .inl (.int v11)), (5, .inl (.int v3)), (0, .inl (.ref 71)), (1, .inl (.int a_d)), (4, .inl (.int x4))]) rfl ?_
            refine sf_iinc (L' := [(2, .inl (.long v40)), (7, .inl (.int v11)), (6, .inl (.int v11)), (5, .inl (.int v3)), (0, .inl (.ref 71)), (1, .inl (.int a_d))]) sf_c1 rfl rfl (by omega) (fun v41 ev41 => ?_)
            refine sf_can (L' := [(0, .inl (.ref 71)), (1, .inl (.int a_d)), (2, .inl (.long v40)), (4, .inl (.int v41))]) rfl ?_
            exact i_10 w38 v40 v41 Iw38 sw38 (by omega) (by omega) (by omega)
        · refine sf_iconst sf_c0 (fun z42 ez42 => ?_)
          refine sf_istore (L' := [(6, .inl (.int v11)), (5, .inl (.int v3)), (0, .inl (.ref 71)), (1, .inl (.int a_d)), (2, .inl (.long x2)), (4, .inl (.int x4))]) rfl ?_
          refine sf_aload rfl ?_
          refine sf_getr I_w rfl rfl ?_
          refine sf_iload rfl ?_
          refine sf_aload rfl ?_
          refine sf_getr I_w rfl rfl ?_
          refine sf_iload rfl ?_
          refine sf_iald I_w rfl (by omega) (fun v43 lv43 uv43 ev43 => ?_)
          clear lv43 uv43
          clear ev43
          refine sf_iload rfl ?_
          refine sf_i2 (fun v44 => ?_)
          refine sf_iast I_w s_w rfl (by omega) (sf_bd _) rfl rfl (fun w45 Iw45 sw45 kw45 uw45 => ?_)
          clear kw45 uw45
          refine sf_iload rfl ?_
          refine sf_f1_lt (fun h46 => ?_) (fun h46 => absurd h46 (by omega))
          refine sf_aload rfl ?_
          refine sf_getr Iw45 rfl rfl ?_
          refine sf_iload rfl ?_
          refine sf_aload rfl ?_
          refine sf_iload rfl ?_
          refine sf_iload rfl ?_
          refine sf_call3 rfl rfl rfl ?_
          refine sf_rv Iw45 rfl ?_
          refine sc_M_dutyOf Iw45 (by omega) (by omega) (by omega) (by omega) (by rw [sf_ma sw45 (p := 104) rfl]; omega) (by rw [sf_ma sw45 (p := 117) rfl]; exact p2 _ (by omega)) (fun v47 => ?_)
          refine sf_last Iw45 sw45 rfl (by omega) rfl rfl (fun w49 Iw49 sw49 kw49 uw49 => ?_)
          clear kw49 uw49
          refine sf_lload rfl ?_
          refine sf_aload rfl ?_
          refine sf_getr Iw49 rfl rfl ?_
          refine sf_iload rfl ?_
          refine sf_lald Iw49 rfl (by omega) (fun v50 ev50 => ?_)
          clear ev50
          refine sf_l2 (fun v51 => ?_)
          refine sf_lstore (L' := [(7, .inl (.int z42)), (6, .inl (.int v11)), (5, .inl (.int v3)), (0, .inl (.ref 71)), (1, .inl (.int a_d)), (4, .inl (.int x4))]) rfl ?_
          refine sf_iinc (L' := [(2, .inl (.long v51)), (7, .inl (.int z42)), (6, .inl (.int v11)), (5, .inl (.int v3)), (0, .inl (.ref 71)), (1, .inl (.int a_d))]) sf_c1 rfl rfl (by omega) (fun v52 ev52 => ?_)
          refine sf_can (L' := [(0, .inl (.ref 71)), (1, .inl (.int a_d)), (2, .inl (.long v51)), (4, .inl (.int v52))]) rfl ?_
          exact i_10 w49 v51 v52 Iw49 sw49 (by omega) (by omega) (by omega)
  have hl1 := hl 1000000000000
  have i_10 := hl1
  clear hl hl1
  refine sf_sp (L := [(0, .inl (.ref 71)), (1, .inl (.int a_d))]) rfl rfl ?_
  generalize ku_M_workOut rt xt 1000000000000 = K at i_10 ⊢
  refine sf_aload rfl ?_
  refine sf_iload rfl ?_
  refine sf_call2 rfl rfl rfl ?_
  refine sf_rv hI0 rfl ?_
  refine sc_M_value hI0 (by omega) (by omega) (fun w53 Iw53 tw53 => ?_)
  have s55 := sf_mt hs0 tw53 rfl
  refine sf_lconst (by decide : (0 : Int64).toInt = 0) (fun z56 ez56 => ?_)
  refine sf_lstore (L' := [(0, .inl (.ref 71)), (1, .inl (.int a_d))]) rfl ?_
  refine sf_iconst sf_c0 (fun z57 ez57 => ?_)
  refine sf_istore (L' := [(2, .inl (.long z56)), (0, .inl (.ref 71)), (1, .inl (.int a_d))]) rfl ?_
  refine sf_can (L' := [(0, .inl (.ref 71)), (1, .inl (.int a_d)), (2, .inl (.long z56)), (4, .inl (.int z57))]) rfl ?_
  exact i_10 w53 z56 z57 Iw53 s55 (by omega) (by omega) (by omega)
def sm_M_mean : List Nat := [92]
set_option maxRecDepth 100000 in
set_option maxHeartbeats 4000000 in
theorem sc_M_mean {w0 : wq_W} (hI0 : sf_I w0) {rt : Option wq_V → wq_W → Prop} {xt : Nat → wq_W → Prop}   (hR : ∀ (w : wq_W), sf_I w → sf_m sm_M_mean w0 w → rt none w) : ks_M_mean [.inl (.ref 71)] w0 rt xt := by
  have hs0 : sf_m sm_M_mean w0 w0 := sf_m0
  have hl : ∀ n : Nat, (∀ (w : wq_W) (x1 : Int32), (sf_I w) → (sf_m sm_M_mean w0 w) → (0 ≤ x1.toInt) → (x1.toInt ≤ 8) → (8 - x1.toInt < (n : Int)) → ku_M_mean rt xt n 2 [(0, .inl (.ref 71)), (1, .inl (.int x1))] [] w 0 0) := by
    intro n
    induction n with
    | zero =>
      refine ?_
      · intros; omega
    | succ n ih =>
      have i_2 := ih
      intro w x1 I_w s_w l_x1 u_x1 hm
      show kh_M_mean_2 rt xt (ku_M_mean rt xt n) [(0, .inl (.ref 71)), (1, .inl (.int x1))] [] w 0 0
      generalize ku_M_mean rt xt n = K at i_2 ⊢
      refine sf_iload rfl ?_
      refine sf_aload rfl ?_
      refine sf_geti I_w rfl rfl (fun v1 lv1 uv1 ev1 => ?_)
      rw [sf_mf s_w (p := 71) (j := 18) rfl] at ev1
      refine sf_f2_ge (fun h2 => ?_) (fun h2 => ?_)
      · refine sf_vreturn rfl rfl ?_
        exact hR _ I_w s_w 
      · refine sf_aload rfl ?_
        refine sf_getr I_w rfl rfl ?_
        refine sf_iload rfl ?_
        refine sf_aload rfl ?_
        refine sf_getr I_w rfl rfl ?_
        refine sf_iload rfl ?_
        refine sf_iald I_w rfl (by omega) (fun v3 lv3 uv3 ev3 => ?_)
        clear lv3 uv3
        clear ev3
        refine sf_iast I_w s_w rfl (by omega) (sf_bd _) rfl rfl (fun w4 Iw4 sw4 kw4 uw4 => ?_)
        clear kw4 uw4
        refine sf_iinc (L' := [(0, .inl (.ref 71))]) sf_c1 rfl rfl (by omega) (fun v5 ev5 => ?_)
        refine sf_can (L' := [(0, .inl (.ref 71)), (1, .inl (.int v5))]) rfl ?_
        exact i_2 w4 v5 Iw4 sw4 (by omega) (by omega) (by omega)
  have hl1 := hl 1000000000000
  have i_2 := hl1
  clear hl hl1
  refine sf_sp (L := [(0, .inl (.ref 71))]) rfl rfl ?_
  generalize ku_M_mean rt xt 1000000000000 = K at i_2 ⊢
  refine sf_iconst sf_c0 (fun z6 ez6 => ?_)
  refine sf_istore (L' := [(0, .inl (.ref 71))]) rfl ?_
  refine sf_can (L' := [(0, .inl (.ref 71)), (1, .inl (.int z6))]) rfl ?_
  exact i_2 w0 z6 hI0 hs0 (by omega) (by omega) (by omega)
