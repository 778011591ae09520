def sm_A_findValues : List Nat := [54, 58, 59]
set_option maxRecDepth 100000 in
set_option maxHeartbeats 4000000 in
theorem sc_A_findValues {w0 : wq_W} (hI0 : sf_I w0) {rt : Option wq_V → wq_W → Prop} {xt : Nat → wq_W → Prop} {a_declaration : Int32} (p0 : 0 ≤ a_declaration.toInt) (p1 : a_declaration.toInt ≤ 11) (hR : ∀ (w : wq_W), sf_I w → sf_m sm_A_findValues w0 w → rt none w) : ks_A_findValues [.inl (.ref 51), .inl (.int a_declaration)] w0 rt xt := by
  have hs0 : sf_m sm_A_findValues w0 w0 := sf_m0
  have hl : ∀ n : Nat, (∀ (w : wq_W) (x2 : Int32), (sf_I w) → (sf_m sm_A_findValues w0 w) → (0 ≤ x2.toInt) → (x2.toInt ≤ 4) → (4 - x2.toInt < (n : Int)) → ku_A_findValues rt xt n 2 [(0, .inl (.ref 51)), (1, .inl (.int a_declaration)), (2, .inl (.int x2))] [] w 0 0) := by
    intro n
    induction n with
    | zero =>
      refine ?_
      · intros; omega
    | succ n ih =>
      have i_2 := ih
      intro w x2 I_w s_w l_x2 u_x2 hm
      show kh_A_findValues_2 rt xt (ku_A_findValues rt xt n) [(0, .inl (.ref 51)), (1, .inl (.int a_declaration)), (2, .inl (.int x2))] [] w 0 0
      generalize ku_A_findValues rt xt n = K at i_2 ⊢
      refine sf_iload rfl ?_
      refine sf_aload rfl ?_
      refine sf_getr I_w rfl rfl ?_
      refine sf_getr I_w rfl rfl ?_
      refine sf_iload rfl ?_
      refine sf_iald I_w rfl (by omega) (fun v1 lv1 uv1 ev1 => ?_)
      rw [sf_ma s_w (p := 38) rfl] at ev1
      refine sf_f2_ge (fun h2 => ?_) (fun h2 => ?_)
      · refine sf_aload rfl ?_
        refine sf_iload rfl ?_
        refine sf_iconst sf_c0 (fun z3 ez3 => ?_)
        refine sf_aload rfl ?_
        refine sf_getr I_w rfl rfl ?_
        refine sf_getr I_w rfl rfl ?_
        refine sf_call4 rfl rfl rfl ?_
        refine sf_rv I_w rfl ?_
        refine sc_A_spread_45 I_w (by omega) (by omega) (by omega) (by omega) (fun w4 Iw4 tw4 => ?_)
        have s6 := sf_mt s_w tw4 rfl
        refine sf_aload rfl ?_
        refine sf_iload rfl ?_
        refine sf_iconst sf_c1 (fun z7 ez7 => ?_)
        refine sf_aload rfl ?_
        refine sf_getr Iw4 rfl rfl ?_
        refine sf_getr Iw4 rfl rfl ?_
        refine sf_call4 rfl rfl rfl ?_
        refine sf_rv Iw4 rfl ?_
        refine sc_A_spread_46 Iw4 (by omega) (by omega) (by omega) (by omega) (fun w8 Iw8 tw8 => ?_)
        have s10 := sf_mt s6 tw8 rfl
        refine sf_vreturn rfl rfl ?_
        exact hR _ Iw8 s10 
      · refine sf_aload rfl ?_
        refine sf_getr I_w rfl rfl ?_
        refine sf_iload rfl ?_
        refine sf_aload rfl ?_
        refine sf_getr I_w rfl rfl ?_
        refine sf_getr I_w rfl rfl ?_
        refine sf_iload rfl ?_
        refine sf_iload rfl ?_
        refine sf_call2 rfl rfl rfl ?_
        refine sf_sp (L := [(0, .inl (.int a_declaration)), (1, .inl (.int x2))]) rfl rfl ?_
        refine sf_iload rfl ?_
        refine sf_iconst sf_c4 (fun z11 ez11 => ?_)
        refine sf_imulr (n := 4) (by omega) (by omega) (fun v12 ev12 => ?_)
        refine sf_iload rfl ?_
        refine sf_iadd (by omega) (fun v13 ev13 => ?_)
        refine sf_ireturn rfl rfl ?_
        refine sf_iald I_w rfl (by omega) (fun v14 lv14 uv14 ev14 => ?_)
        clear lv14 uv14
        clear ev14
        refine sf_i2lb (fun v15 ev15 lv15 uv15 => ?_)
        refine sf_last I_w s_w rfl (by omega) rfl rfl (fun w16 Iw16 sw16 kw16 uw16 => ?_)
        clear kw16 uw16
        refine sf_iinc (L' := [(0, .inl (.ref 51)), (1, .inl (.int a_declaration))]) sf_c1 rfl rfl (by omega) (fun v17 ev17 => ?_)
        refine sf_can (L' := [(0, .inl (.ref 51)), (1, .inl (.int a_declaration)), (2, .inl (.int v17))]) rfl ?_
        exact i_2 w16 v17 Iw16 sw16 (by omega) (by omega) (by omega)
  have hl1 := hl 1000000000000
  have i_2 := hl1
  clear hl hl1
  refine sf_sp (L := [(0, .inl (.ref 51)), (1, .inl (.int a_declaration))]) rfl rfl ?_
  generalize ku_A_findValues rt xt 1000000000000 = K at i_2 ⊢
  refine sf_iconst sf_c0 (fun z18 ez18 => ?_)
  refine sf_istore (L' := [(0, .inl (.ref 51)), (1, .inl (.int a_declaration))]) rfl ?_
  refine sf_can (L' := [(0, .inl (.ref 51)), (1, .inl (.int a_declaration)), (2, .inl (.int z18))]) rfl ?_
  exact i_2 w0 z18 hI0 hs0 (by omega) (by omega) (by omega)
def sm_A_dutyOf : List Nat := []
set_option maxRecDepth 100000 in
set_option maxHeartbeats 4000000 in
theorem sc_A_dutyOf {w0 : wq_W} (hI0 : sf_I w0) {rt : Option wq_V → wq_W → Prop} {xt : Nat → wq_W → Prop} {a_line : Int32} {a_row : Int32} (p0 : 0 ≤ a_line.toInt) (p1 : a_line.toInt ≤ 3) (p2 : 0 ≤ a_row.toInt) (p3 : a_row.toInt ≤ 47) (p4 : 0 ≤ (sf_a w0 55 a_line.toInt.toNat).toInt) (hR : ∀ (r : Int64), rt (some (.inl (.long r))) w0) : ks_A_dutyOf [.inl (.ref 51), .inl (.int a_line), .inl (.int a_row)] w0 rt xt := by
  refine sf_sp (L := [(0, .inl (.ref 51)), (1, .inl (.int a_line)), (2, .inl (.int a_row))]) rfl rfl ?_
  refine sf_aload rfl ?_
  refine sf_getr hI0 rfl rfl ?_
  refine sf_getr hI0 rfl rfl ?_
  refine sf_iload rfl ?_
  refine sf_iald hI0 rfl (by omega) (fun v1 lv1 uv1 ev1 => ?_)
  clear lv1 uv1
  clear ev1
  refine sf_i2lb (fun v2 ev2 lv2 uv2 => ?_)
  refine sf_lstore (L' := [(0, .inl (.ref 51)), (1, .inl (.int a_line)), (2, .inl (.int a_row))]) rfl ?_
  refine sf_aload rfl ?_
  refine sf_getr hI0 rfl rfl ?_
  refine sf_aload rfl ?_
  refine sf_getr hI0 rfl rfl ?_
  refine sf_iload rfl ?_
  refine sf_iald hI0 rfl (by omega) (fun v3 lv3 uv3 ev3 => ?_)
  refine sf_aload rfl ?_
  refine sf_getr hI0 rfl rfl ?_
  refine sf_iload rfl ?_
  refine sf_lald hI0 rfl (by omega) (fun v4 ev4 => ?_)
  clear ev4
  refine sf_aload rfl ?_
  refine sf_getr hI0 rfl rfl ?_
  refine sf_getr hI0 rfl rfl ?_
  refine sf_iload rfl ?_
  refine sf_iald hI0 rfl (by omega) (fun v5 lv5 uv5 ev5 => ?_)
  clear lv5 uv5
  clear ev5
  refine sf_i2lb (fun v6 ev6 lv6 uv6 => ?_)
  refine sf_call4 rfl rfl rfl ?_
  refine sf_rv hI0 rfl ?_
  refine sf_sp (L := [(0, .inl (.ref 13)), (1, .inl (.int v3)), (2, .inl (.long v4)), (4, .inl (.long v6))]) rfl rfl ?_
  refine sf_aload rfl ?_
  refine sf_getr hI0 rfl rfl ?_
  refine sf_iload rfl ?_
  refine sf_iald hI0 rfl (by omega) (fun v7 lv7 uv7 ev7 => ?_)
  clear lv7 uv7
  clear ev7
  refine sf_i2lb (fun v8 ev8 lv8 uv8 => ?_)
  refine sf_lload rfl ?_
  refine sf_l2 (fun v9 => ?_)
  refine sf_lstore (L' := [(0, .inl (.ref 13)), (1, .inl (.int v3)), (2, .inl (.long v4)), (4, .inl (.long v6))]) rfl ?_
  refine sf_aload rfl ?_
  refine sf_getr hI0 rfl rfl ?_
  refine sf_iload rfl ?_
  refine sf_iald hI0 rfl (by omega) (fun v10 lv10 uv10 ev10 => ?_)
  clear lv10 uv10
  clear ev10
  refine sf_i2lb (fun v11 ev11 lv11 uv11 => ?_)
  refine sf_lload rfl ?_
  refine sf_l2 (fun v12 => ?_)
  refine sf_lconst (by decide : (10000 : Int64).toInt = 10000) (fun z13 ez13 => ?_)
  refine sf_l2 (fun v14 => ?_)
  refine sf_lstore (L' := [(6, .inl (.long v9)), (0, .inl (.ref 13)), (1, .inl (.int v3)), (2, .inl (.long v4)), (4, .inl (.long v6))]) rfl ?_
  refine sf_aload rfl ?_
  refine sf_getr hI0 rfl rfl ?_
  refine sf_iload rfl ?_
  refine sf_iald hI0 rfl (by omega) (fun v15 lv15 uv15 ev15 => ?_)
  clear lv15 uv15
  clear ev15
  refine sf_sw1 sf_c0 (fun h16 => ?_) (fun h16 => ?_)
  · refine sf_lload rfl ?_
    refine sf_lreturn rfl rfl ?_
    refine sf_lstore (L' := [(3, .inl (.long v2)), (0, .inl (.ref 51)), (1, .inl (.int a_line)), (2, .inl (.int a_row))]) rfl ?_
    refine sf_aload rfl ?_
    refine sf_getr hI0 rfl rfl ?_
    refine sf_iload rfl ?_
    refine sf_iald hI0 rfl (by omega) (fun v17 lv17 uv17 ev17 => ?_)
    clear ev17
    refine sf_istore (L' := [(5, .inl (.long v9)), (3, .inl (.long v2)), (0, .inl (.ref 51)), (1, .inl (.int a_line)), (2, .inl (.int a_row))]) rfl ?_
    refine sf_iload rfl ?_
    refine sf_iconst sf_cm1 (fun z18 ez18 => ?_)
    refine sf_f2_eq (fun h19 => ?_) (fun h19 => ?_)
    · refine sf_lconst (by decide : (0 : Int64).toInt = 0) (fun z20 ez20 => ?_)
      refine sf_lstore (L' := [(7, .inl (.int v17)), (5, .inl (.long v9)), (3, .inl (.long v2)), (0, .inl (.ref 51)), (1, .inl (.int a_line)), (2, .inl (.int a_row))]) rfl ?_
      refine sf_lload rfl ?_
      refine sf_aload rfl ?_
      refine sf_getr hI0 rfl rfl ?_
      refine sf_iload rfl ?_
      refine sf_iald hI0 rfl (by omega) (fun v21 lv21 uv21 ev21 => ?_)
      clear lv21 uv21
      clear ev21
      refine sf_i2lb (fun v22 ev22 lv22 uv22 => ?_)
      refine sf_l2 (fun v23 => ?_)
      refine sf_lload rfl ?_
      refine sf_l2 (fun v24 => ?_)
      refine sf_aload rfl ?_
      refine sf_getr hI0 rfl rfl ?_
      refine sf_iload rfl ?_
      refine sf_iald hI0 rfl (by omega) (fun v25 lv25 uv25 ev25 => ?_)
      clear lv25 uv25
      clear ev25
      refine sf_i2lb (fun v26 ev26 lv26 uv26 => ?_)
      refine sf_lload rfl ?_
      refine sf_lmulr (n := 0) (by omega) (by omega) (fun v27 ev27 => ?_)
      refine sf_l2 (fun v28 => ?_)
      refine sf_lstore (L' := [(8, .inl (.long z20)), (7, .inl (.int v17)), (5, .inl (.long v9)), (3, .inl (.long v2)), (0, .inl (.ref 51)), (1, .inl (.int a_line)), (2, .inl (.int a_row))]) rfl ?_
      refine sf_lload rfl ?_
      refine sf_lload rfl ?_
      refine sf_lconst (by decide : (10000 : Int64).toInt = 10000) (fun z29 ez29 => ?_)
      refine sf_lmulr (n := 10000) (by omega) (by omega) (fun v30 ev30 => ?_)
      refine sf_call2 rfl rfl rfl ?_
      refine sf_sp (L := [(0, .inl (.long v28)), (2, .inl (.long v30))]) rfl rfl ?_
      refine sf_lload rfl ?_
      refine sf_lconst (by decide : (0 : Int64).toInt = 0) (fun z31 ez31 => ?_)
      refine sf_fl_gt (fun h32 => ?_) (fun h32 => ?_)
      · refine sf_lconst (by decide : (2 : Int64).toInt = 2) (fun z33 ez33 => ?_)
        refine sf_lload rfl ?_
        refine sf_l2 (fun v34 => ?_)
        refine sf_lload rfl ?_
        refine sf_l2 (fun v35 => ?_)
        refine sf_lconst (by decide : (2 : Int64).toInt = 2) (fun z36 ez36 => ?_)
        refine sf_lload rfl ?_
        refine sf_lmul2 (by omega) (by omega) (fun v37 ev37 => ?_)
        refine sf_l2d (by omega) (fun v38 => ?_)
        refine sf_lreturn rfl rfl ?_
        refine sf_lreturn rfl rfl ?_
        exact hR _ 
      · refine sf_lconst (by decide : (0 : Int64).toInt = 0) (fun z39 ez39 => ?_)
        refine sf_lreturn rfl rfl ?_
        refine sf_lreturn rfl rfl ?_
        exact hR _ 
    · refine sf_aload rfl ?_
      refine sf_getr hI0 rfl rfl ?_
      refine sf_getr hI0 rfl rfl ?_
      refine sf_iload rfl ?_
      refine sf_iald hI0 rfl (by omega) (fun v40 lv40 uv40 ev40 => ?_)
      clear lv40 uv40
      clear ev40
      refine sf_i2lb (fun v41 ev41 lv41 uv41 => ?_)
      refine sf_aload rfl ?_
      refine sf_getr hI0 rfl rfl ?_
      refine sf_iload rfl ?_
      refine sf_lald hI0 rfl (by omega) (fun v42 ev42 => ?_)
      clear ev42
      refine sf_l2 (fun v43 => ?_)
      refine sf_lstore (L' := [(7, .inl (.int v17)), (5, .inl (.long v9)), (3, .inl (.long v2)), (0, .inl (.ref 51)), (1, .inl (.int a_line)), (2, .inl (.int a_row))]) rfl ?_
      refine sf_lload rfl ?_
      refine sf_aload rfl ?_
      refine sf_getr hI0 rfl rfl ?_
      refine sf_iload rfl ?_
      refine sf_iald hI0 rfl (by omega) (fun v44 lv44 uv44 ev44 => ?_)
      clear lv44 uv44
      clear ev44
      refine sf_i2lb (fun v45 ev45 lv45 uv45 => ?_)
      refine sf_l2 (fun v46 => ?_)
      refine sf_lload rfl ?_
      refine sf_l2 (fun v47 => ?_)
      refine sf_aload rfl ?_
      refine sf_getr hI0 rfl rfl ?_
      refine sf_iload rfl ?_
      refine sf_iald hI0 rfl (by omega) (fun v48 lv48 uv48 ev48 => ?_)
      clear lv48 uv48
      clear ev48
      refine sf_i2lb (fun v49 ev49 lv49 uv49 => ?_)
      refine sf_lload rfl ?_
      refine sf_l2 (fun v50 => ?_)
      refine sf_l2 (fun v51 => ?_)
      refine sf_lstore (L' := [(8, .inl (.long v43)), (7, .inl (.int v17)), (5, .inl (.long v9)), (3, .inl (.long v2)), (0, .inl (.ref 51)), (1, .inl (.int a_line)), (2, .inl (.int a_row))]) rfl ?_
      refine sf_lload rfl ?_
      refine sf_lload rfl ?_
      refine sf_lconst (by decide : (10000 : Int64).toInt = 10000) (fun z52 ez52 => ?_)
      refine sf_lmulr (n := 10000) (by omega) (by omega) (fun v53 ev53 => ?_)
      refine sf_call2 rfl rfl rfl ?_
      refine sf_sp (L := [(0, .inl (.long v51)), (2, .inl (.long v53))]) rfl rfl ?_
      refine sf_lload rfl ?_
      refine sf_lconst (by decide : (0 : Int64).toInt = 0) (fun z54 ez54 => ?_)
      refine sf_fl_gt (fun h55 => ?_) (fun h55 => ?_)
      · refine sf_lconst (by decide : (2 : Int64).toInt = 2) (fun z56 ez56 => ?_)
        refine sf_lload rfl ?_
        refine sf_l2 (fun v57 => ?_)
        refine sf_lload rfl ?_
        refine sf_l2 (fun v58 => ?_)
        refine sf_lconst (by decide : (2 : Int64).toInt = 2) (fun z59 ez59 => ?_)
        refine sf_lload rfl ?_
        refine sf_lmul2 (by omega) (by omega) (fun v60 ev60 => ?_)
        refine sf_l2d (by omega) (fun v61 => ?_)
        refine sf_lreturn rfl rfl ?_
        refine sf_lreturn rfl rfl ?_
        exact hR _ 
      · refine sf_lconst (by decide : (0 : Int64).toInt = 0) (fun z62 ez62 => ?_)
        refine sf_lreturn rfl rfl ?_
        refine sf_lreturn rfl rfl ?_
        exact hR _ 
  · refine sf_sw1 sf_c1 (fun h63 => ?_) (fun h63 => ?_)
    · refine sf_lload rfl ?_
      refine sf_lreturn rfl rfl ?_
      refine sf_lstore (L' := [(3, .inl (.long v2)), (0, .inl (.ref 51)), (1, .inl (.int a_line)), (2, .inl (.int a_row))]) rfl ?_
      refine sf_aload rfl ?_
      refine sf_getr hI0 rfl rfl ?_
      refine sf_iload rfl ?_
      refine sf_iald hI0 rfl (by omega) (fun v64 lv64 uv64 ev64 => ?_)
      clear ev64
      refine sf_istore (L' := [(5, .inl (.long v14)), (3, .inl (.long v2)), (0, .inl (.ref 51)), (1, .inl (.int a_line)), (2, .inl (.int a_row))]) rfl ?_
      refine sf_iload rfl ?_
      refine sf_iconst sf_cm1 (fun z65 ez65 => ?_)
      refine sf_f2_eq (fun h66 => ?_) (fun h66 => ?_)
      · refine sf_lconst (by decide : (0 : Int64).toInt = 0) (fun z67 ez67 => ?_)
        refine sf_lstore (L' := [(7, .inl (.int v64)), (5, .inl (.long v14)), (3, .inl (.long v2)), (0, .inl (.ref 51)), (1, .inl (.int a_line)), (2, .inl (.int a_row))]) rfl ?_
        refine sf_lload rfl ?_
        refine sf_aload rfl ?_
        refine sf_getr hI0 rfl rfl ?_
        refine sf_iload rfl ?_
        refine sf_iald hI0 rfl (by omega) (fun v68 lv68 uv68 ev68 => ?_)
        clear lv68 uv68
        clear ev68
        refine sf_i2lb (fun v69 ev69 lv69 uv69 => ?_)
        refine sf_l2 (fun v70 => ?_)
        refine sf_lload rfl ?_
        refine sf_l2 (fun v71 => ?_)
        refine sf_aload rfl ?_
        refine sf_getr hI0 rfl rfl ?_
        refine sf_iload rfl ?_
        refine sf_iald hI0 rfl (by omega) (fun v72 lv72 uv72 ev72 => ?_)
        clear lv72 uv72
        clear ev72
        refine sf_i2lb (fun v73 ev73 lv73 uv73 => ?_)
        refine sf_lload rfl ?_
        refine sf_lmulr (n := 0) (by omega) (by omega) (fun v74 ev74 => ?_)
        refine sf_l2 (fun v75 => ?_)
        refine sf_lstore (L' := [(8, .inl (.long z67)), (7, .inl (.int v64)), (5, .inl (.long v14)), (3, .inl (.long v2)), (0, .inl (.ref 51)), (1, .inl (.int a_line)), (2, .inl (.int a_row))]) rfl ?_
        refine sf_lload rfl ?_
        refine sf_lload rfl ?_
        refine sf_lconst (by decide : (10000 : Int64).toInt = 10000) (fun z76 ez76 => ?_)
        refine sf_lmulr (n := 10000) (by omega) (by omega) (fun v77 ev77 => ?_)
        refine sf_call2 rfl rfl rfl ?_
        refine sf_sp (L := [(0, .inl (.long v75)), (2, .inl (.long v77))]) rfl rfl ?_
        refine sf_lload rfl ?_
        refine sf_lconst (by decide : (0 : Int64).toInt = 0) (fun z78 ez78 => ?_)
        refine sf_fl_gt (fun h79 => ?_) (fun h79 => ?_)
        · refine sf_lconst (by decide : (2 : Int64).toInt = 2) (fun z80 ez80 => ?_)
          refine sf_lload rfl ?_
          refine sf_l2 (fun v81 => ?_)
          refine sf_lload rfl ?_
          refine sf_l2 (fun v82 => ?_)
          refine sf_lconst (by decide : (2 : Int64).toInt = 2) (fun z83 ez83 => ?_)
          refine sf_lload rfl ?_
          refine sf_lmul2 (by omega) (by omega) (fun v84 ev84 => ?_)
          refine sf_l2d (by omega) (fun v85 => ?_)
          refine sf_lreturn rfl rfl ?_
          refine sf_lreturn rfl rfl ?_
          exact hR _ 
        · refine sf_lconst (by decide : (0 : Int64).toInt = 0) (fun z86 ez86 => ?_)
          refine sf_lreturn rfl rfl ?_
          refine sf_lreturn rfl rfl ?_
          exact hR _ 
      · refine sf_aload rfl ?_
        refine sf_getr hI0 rfl rfl ?_
        refine sf_getr hI0 rfl rfl ?_
        refine sf_iload rfl ?_
        refine sf_iald hI0 rfl (by omega) (fun v87 lv87 uv87 ev87 => ?_)
        clear lv87 uv87
        clear ev87
        refine sf_i2lb (fun v88 ev88 lv88 uv88 => ?_)
        refine sf_aload rfl ?_
        refine sf_getr hI0 rfl rfl ?_
        refine sf_iload rfl ?_
        refine sf_lald hI0 rfl (by omega) (fun v89 ev89 => ?_)
        clear ev89
        refine sf_l2 (fun v90 => ?_)
        refine sf_lstore (L' := [(7, .inl (.int v64)), (5, .inl (.long v14)), (3, .inl (.long v2)), (0, .inl (.ref 51)), (1, .inl (.int a_line)), (2, .inl (.int a_row))]) rfl ?_
        refine sf_lload rfl ?_
        refine sf_aload rfl ?_
        refine sf_getr hI0 rfl rfl ?_
        refine sf_iload rfl ?_
        refine sf_iald hI0 rfl (by omega) (fun v91 lv91 uv91 ev91 => ?_)
        clear lv91 uv91
        clear ev91
        refine sf_i2lb (fun v92 ev92 lv92 uv92 => ?_)
        refine sf_l2 (fun v93 => ?_)
        refine sf_lload rfl ?_
        refine sf_l2 (fun v94 => ?_)
        refine sf_aload rfl ?_
        refine sf_getr hI0 rfl rfl ?_
        refine sf_iload rfl ?_
        refine sf_iald hI0 rfl (by omega) (fun v95 lv95 uv95 ev95 => ?_)
        clear lv95 uv95
        clear ev95
        refine sf_i2lb (fun v96 ev96 lv96 uv96 => ?_)
        refine sf_lload rfl ?_
        refine sf_l2 (fun v97 => ?_)
        refine sf_l2 (fun v98 => ?_)
        refine sf_lstore (L' := [(8, .inl (.long v90)), (7, .inl (.int v64)), (5, .inl (.long v14)), (3, .inl (.long v2)), (0, .inl (.ref 51)), (1, .inl (.int a_line)), (2, .inl (.int a_row))]) rfl ?_
        refine sf_lload rfl ?_
        refine sf_lload rfl ?_
        refine sf_lconst (by decide : (10000 : Int64).toInt = 10000) (fun z99 ez99 => ?_)
        refine sf_lmulr (n := 10000) (by omega) (by omega) (fun v100 ev100 => ?_)
        refine sf_call2 rfl rfl rfl ?_
        refine sf_sp (L := [(0, .inl (.long v98)), (2, .inl (.long v100))]) rfl rfl ?_
        refine sf_lload rfl ?_
        refine sf_lconst (by decide : (0 : Int64).toInt = 0) (fun z101 ez101 => ?_)
        refine sf_fl_gt (fun h102 => ?_) (fun h102 => ?_)
        · refine sf_lconst (by decide : (2 : Int64).toInt = 2) (fun z103 ez103 => ?_)
          refine sf_lload rfl ?_
          refine sf_l2 (fun v104 => ?_)
          refine sf_lload rfl ?_
          refine sf_l2 (fun v105 => ?_)
          refine sf_lconst (by decide : (2 : Int64).toInt = 2) (fun z106 ez106 => ?_)
          refine sf_lload rfl ?_
          refine sf_lmul2 (by omega) (by omega) (fun v107 ev107 => ?_)
          refine sf_l2d (by omega) (fun v108 => ?_)
          refine sf_lreturn rfl rfl ?_
          refine sf_lreturn rfl rfl ?_
          exact hR _ 
        · refine sf_lconst (by decide : (0 : Int64).toInt = 0) (fun z109 ez109 => ?_)
          refine sf_lreturn rfl rfl ?_
          refine sf_lreturn rfl rfl ?_
          exact hR _ 
    · refine sf_sw1 sf_c2 (fun h110 => ?_) (fun h110 => ?_)
      · refine sf_lload rfl ?_
        refine sf_lload rfl ?_
        refine sf_ml rfl rfl rfl (fun v111 => ?_)
        refine sf_lreturn rfl rfl ?_
        refine sf_lstore (L' := [(3, .inl (.long v2)), (0, .inl (.ref 51)), (1, .inl (.int a_line)), (2, .inl (.int a_row))]) rfl ?_
        refine sf_aload rfl ?_
        refine sf_getr hI0 rfl rfl ?_
        refine sf_iload rfl ?_
        refine sf_iald hI0 rfl (by omega) (fun v112 lv112 uv112 ev112 => ?_)
        clear ev112
        refine sf_istore (L' := [(5, .inl (.long v111)), (3, .inl (.long v2)), (0, .inl (.ref 51)), (1, .inl (.int a_line)), (2, .inl (.int a_row))]) rfl ?_
        refine sf_iload rfl ?_
        refine sf_iconst sf_cm1 (fun z113 ez113 => ?_)
        refine sf_f2_eq (fun h114 => ?_) (fun h114 => ?_)
        · refine sf_lconst (by decide : (0 : Int64).toInt = 0) (fun z115 ez115 => ?_)
          refine sf_lstore (L' := [(7, .inl (.int v112)), (5, .inl (.long v111)), (3, .inl (.long v2)), (0, .inl (.ref 51)), (1, .inl (.int a_line)), (2, .inl (.int a_row))]) rfl ?_
          refine sf_lload rfl ?_
          refine sf_aload rfl ?_
          refine sf_getr hI0 rfl rfl ?_
          refine sf_iload rfl ?_
          refine sf_iald hI0 rfl (by omega) (fun v116 lv116 uv116 ev116 => ?_)
          clear lv116 uv116
          clear ev116
          refine sf_i2lb (fun v117 ev117 lv117 uv117 => ?_)
          refine sf_l2 (fun v118 => ?_)
          refine sf_lload rfl ?_
          refine sf_l2 (fun v119 => ?_)
          refine sf_aload rfl ?_
          refine sf_getr hI0 rfl rfl ?_
          refine sf_iload rfl ?_
          refine sf_iald hI0 rfl (by omega) (fun v120 lv120 uv120 ev120 => ?_)
          clear lv120 uv120
          clear ev120
          refine sf_i2lb (fun v121 ev121 lv121 uv121 => ?_)
          refine sf_lload rfl ?_
          refine sf_lmulr (n := 0) (by omega) (by omega) (fun v122 ev122 => ?_)
          refine sf_l2 (fun v123 => ?_)
          refine sf_lstore (L' := [(8, .inl (.long z115)), (7, .inl (.int v112)), (5, .inl (.long v111)), (3, .inl (.long v2)), (0, .inl (.ref 51)), (1, .inl (.int a_line)), (2, .inl (.int a_row))]) rfl ?_
          refine sf_lload rfl ?_
          refine sf_lload rfl ?_
          refine sf_lconst (by decide : (10000 : Int64).toInt = 10000) (fun z124 ez124 => ?_)
          refine sf_lmulr (n := 10000) (by omega) (by omega) (fun v125 ev125 => ?_)
          refine sf_call2 rfl rfl rfl ?_
          refine sf_sp (L := [(0, .inl (.long v123)), (2, .inl (.long v125))]) rfl rfl ?_
          refine sf_lload rfl ?_
          refine sf_lconst (by decide : (0 : Int64).toInt = 0) (fun z126 ez126 => ?_)
          refine sf_fl_gt (fun h127 => ?_) (fun h127 => ?_)
          · refine sf_lconst (by decide : (2 : Int64).toInt = 2) (fun z128 ez128 => ?_)
            refine sf_lload rfl ?_
            refine sf_l2 (fun v129 => ?_)
            refine sf_lload rfl ?_
            refine sf_l2 (fun v130 => ?_)
            refine sf_lconst (by decide : (2 : Int64).toInt = 2) (fun z131 ez131 => ?_)
            refine sf_lload rfl ?_
            refine sf_lmul2 (by omega) (by omega) (fun v132 ev132 => ?_)
            refine sf_l2d (by omega) (fun v133 => ?_)
            refine sf_lreturn rfl rfl ?_
            refine sf_lreturn rfl rfl ?_
            exact hR _ 
          · refine sf_lconst (by decide : (0 : Int64).toInt = 0) (fun z134 ez134 => ?_)
            refine sf_lreturn rfl rfl ?_
            refine sf_lreturn rfl rfl ?_
            exact hR _ 
        · refine sf_aload rfl ?_
          refine sf_getr hI0 rfl rfl ?_
          refine sf_getr hI0 rfl rfl ?_
          refine sf_iload rfl ?_
          refine sf_iald hI0 rfl (by omega) (fun v135 lv135 uv135 ev135 => ?_)
          clear lv135 uv135
          clear ev135
          refine sf_i2lb (fun v136 ev136 lv136 uv136 => ?_)
          refine sf_aload rfl ?_
          refine sf_getr hI0 rfl rfl ?_
          refine sf_iload rfl ?_
          refine sf_lald hI0 rfl (by omega) (fun v137 ev137 => ?_)
          clear ev137
          refine sf_l2 (fun v138 => ?_)
          refine sf_lstore (L' := [(7, .inl (.int v112)), (5, .inl (.long v111)), (3, .inl (.long v2)), (0, .inl (.ref 51)), (1, .inl (.int a_line)), (2, .inl (.int a_row))]) rfl ?_
          refine sf_lload rfl ?_
          refine sf_aload rfl ?_
          refine sf_getr hI0 rfl rfl ?_
          refine sf_iload rfl ?_
          refine sf_iald hI0 rfl (by omega) (fun v139 lv139 uv139 ev139 => ?_)
          clear lv139 uv139
          clear ev139
          refine sf_i2lb (fun v140 ev140 lv140 uv140 => ?_)
          refine sf_l2 (fun v141 => ?_)
          refine sf_lload rfl ?_
          refine sf_l2 (fun v142 => ?_)
          refine sf_aload rfl ?_
          refine sf_getr hI0 rfl rfl ?_
          refine sf_iload rfl ?_
          refine sf_iald hI0 rfl (by omega) (fun v143 lv143 uv143 ev143 => ?_)
          clear lv143 uv143
          clear ev143
          refine sf_i2lb (fun v144 ev144 lv144 uv144 => ?_)
          refine sf_lload rfl ?_
          refine sf_l2 (fun v145 => ?_)
          refine sf_l2 (fun v146 => ?_)
          refine sf_lstore (L' := [(8, .inl (.long v138)), (7, .inl (.int v112)), (5, .inl (.long v111)), (3, .inl (.long v2)), (0, .inl (.ref 51)), (1, .inl (.int a_line)), (2, .inl (.int a_row))]) rfl ?_
          refine sf_lload rfl ?_
          refine sf_lload rfl ?_
          refine sf_lconst (by decide : (10000 : Int64).toInt = 10000) (fun z147 ez147 => ?_)
          refine sf_lmulr (n := 10000) (by omega) (by omega) (fun v148 ev148 => ?_)
          refine sf_call2 rfl rfl rfl ?_
          refine sf_sp (L := [(0, .inl (.long v146)), (2, .inl (.long v148))]) rfl rfl ?_
          refine sf_lload rfl ?_
          refine sf_lconst (by decide : (0 : Int64).toInt = 0) (fun z149 ez149 => ?_)
          refine sf_fl_gt (fun h150 => ?_) (fun h150 => ?_)
          · refine sf_lconst (by decide : (2 : Int64).toInt = 2) (fun z151 ez151 => ?_)
            refine sf_lload rfl ?_
            refine sf_l2 (fun v152 => ?_)
            refine sf_lload rfl ?_
            refine sf_l2 (fun v153 => ?_)
            refine sf_lconst (by decide : (2 : Int64).toInt = 2) (fun z154 ez154 => ?_)
            refine sf_lload rfl ?_
            refine sf_lmul2 (by omega) (by omega) (fun v155 ev155 => ?_)
            refine sf_l2d (by omega) (fun v156 => ?_)
            refine sf_lreturn rfl rfl ?_
            refine sf_lreturn rfl rfl ?_
            exact hR _ 
          · refine sf_lconst (by decide : (0 : Int64).toInt = 0) (fun z157 ez157 => ?_)
            refine sf_lreturn rfl rfl ?_
            refine sf_lreturn rfl rfl ?_
            exact hR _ 
      · refine sf_sw0 ?_
        refine sf_lload rfl ?_
        refine sf_lload rfl ?_
        refine sf_l2 (fun v158 => ?_)
        refine sf_lreturn rfl rfl ?_
        refine sf_lstore (L' := [(3, .inl (.long v2)), (0, .inl (.ref 51)), (1, .inl (.int a_line)), (2, .inl (.int a_row))]) rfl ?_
        refine sf_aload rfl ?_
        refine sf_getr hI0 rfl rfl ?_
        refine sf_iload rfl ?_
        refine sf_iald hI0 rfl (by omega) (fun v159 lv159 uv159 ev159 => ?_)
        clear ev159
        refine sf_istore (L' := [(5, .inl (.long v158)), (3, .inl (.long v2)), (0, .inl (.ref 51)), (1, .inl (.int a_line)), (2, .inl (.int a_row))]) rfl ?_
        refine sf_iload rfl ?_
        refine sf_iconst sf_cm1 (fun z160 ez160 => ?_)
        refine sf_f2_eq (fun h161 => ?_) (fun h161 => ?_)
        · refine sf_lconst (by decide : (0 : Int64).toInt = 0) (fun z162 ez162 => ?_)
          refine sf_lstore (L' := [(7, .inl (.int v159)), (5, .inl (.long v158)), (3, .inl (.long v2)), (0, .inl (.ref 51)), (1, .inl (.int a_line)), (2, .inl (.int a_row))]) rfl ?_
          refine sf_lload rfl ?_
          refine sf_aload rfl ?_
          refine sf_getr hI0 rfl rfl ?_
          refine sf_iload rfl ?_
          refine sf_iald hI0 rfl (by omega) (fun v163 lv163 uv163 ev163 => ?_)
          clear lv163 uv163
          clear ev163
          refine sf_i2lb (fun v164 ev164 lv164 uv164 => ?_)
          refine sf_l2 (fun v165 => ?_)
          refine sf_lload rfl ?_
          refine sf_l2 (fun v166 => ?_)
          refine sf_aload rfl ?_
          refine sf_getr hI0 rfl rfl ?_
          refine sf_iload rfl ?_
          refine sf_iald hI0 rfl (by omega) (fun v167 lv167 uv167 ev167 => ?_)
          clear lv167 uv167
          clear ev167
          refine sf_i2lb (fun v168 ev168 lv168 uv168 => ?_)
          refine sf_lload rfl ?_
          refine sf_lmulr (n := 0) (by omega) (by omega) (fun v169 ev169 => ?_)
          refine sf_l2 (fun v170 => ?_)
          refine sf_lstore (L' := [(8, .inl (.long z162)), (7, .inl (.int v159)), (5, .inl (.long v158)), (3, .inl (.long v2)), (0, .inl (.ref 51)), (1, .inl (.int a_line)), (2, .inl (.int a_row))]) rfl ?_
          refine sf_lload rfl ?_
          refine sf_lload rfl ?_
          refine sf_lconst (by decide : (10000 : Int64).toInt = 10000) (fun z171 ez171 => ?_)
          refine sf_lmulr (n := 10000) (by omega) (by omega) (fun v172 ev172 => ?_)
          refine sf_call2 rfl rfl rfl ?_
          refine sf_sp (L := [(0, .inl (.long v170)), (2, .inl (.long v172))]) rfl rfl ?_
          refine sf_lload rfl ?_
          refine sf_lconst (by decide : (0 : Int64).toInt = 0) (fun z173 ez173 => ?_)
          refine sf_fl_gt (fun h174 => ?_) (fun h174 => ?_)
          · refine sf_lconst (by decide : (2 : Int64).toInt = 2) (fun z175 ez175 => ?_)
            refine sf_lload rfl ?_
            refine sf_l2 (fun v176 => ?_)
            refine sf_lload rfl ?_
            refine sf_l2 (fun v177 => ?_)
            refine sf_lconst (by decide : (2 : Int64).toInt = 2) (fun z178 ez178 => ?_)
            refine sf_lload rfl ?_
            refine sf_lmul2 (by omega) (by omega) (fun v179 ev179 => ?_)
            refine sf_l2d (by omega) (fun v180 => ?_)
            refine sf_lreturn rfl rfl ?_
            refine sf_lreturn rfl rfl ?_
            exact hR _ 
          · refine sf_lconst (by decide : (0 : Int64).toInt = 0) (fun z181 ez181 => ?_)
            refine sf_lreturn rfl rfl ?_
            refine sf_lreturn rfl rfl ?_
            exact hR _ 
        · refine sf_aload rfl ?_
          refine sf_getr hI0 rfl rfl ?_
          refine sf_getr hI0 rfl rfl ?_
          refine sf_iload rfl ?_
          refine sf_iald hI0 rfl (by omega) (fun v182 lv182 uv182 ev182 => ?_)
          clear lv182 uv182
          clear ev182
          refine sf_i2lb (fun v183 ev183 lv183 uv183 => ?_)
          refine sf_aload rfl ?_
          refine sf_getr hI0 rfl rfl ?_
          refine sf_iload rfl ?_
          refine sf_lald hI0 rfl (by omega) (fun v184 ev184 => ?_)
          clear ev184
          refine sf_l2 (fun v185 => ?_)
          refine sf_lstore (L' := [(7, .inl (.int v159)), (5, .inl (.long v158)), (3, .inl (.long v2)), (0, .inl (.ref 51)), (1, .inl (.int a_line)), (2, .inl (.int a_row))]) rfl ?_
          refine sf_lload rfl ?_
          refine sf_aload rfl ?_
          refine sf_getr hI0 rfl rfl ?_
          refine sf_iload rfl ?_
          refine sf_iald hI0 rfl (by omega) (fun v186 lv186 uv186 ev186 => ?_)
          clear lv186 uv186
          clear ev186
          refine sf_i2lb (fun v187 ev187 lv187 uv187 => ?_)
          refine sf_l2 (fun v188 => ?_)
          refine sf_lload rfl ?_
          refine sf_l2 (fun v189 => ?_)
          refine sf_aload rfl ?_
          refine sf_getr hI0 rfl rfl ?_
          refine sf_iload rfl ?_
          refine sf_iald hI0 rfl (by omega) (fun v190 lv190 uv190 ev190 => ?_)
          clear lv190 uv190
          clear ev190
          refine sf_i2lb (fun v191 ev191 lv191 uv191 => ?_)
          refine sf_lload rfl ?_
          refine sf_l2 (fun v192 => ?_)
          refine sf_l2 (fun v193 => ?_)
          refine sf_lstore (L' := [(8, .inl (.long v185)), (7, .inl (.int v159)), (5, .inl (.long v158)), (3, .inl (.long v2)), (0, .inl (.ref 51)), (1, .inl (.int a_line)), (2, .inl (.int a_row))]) rfl ?_
          refine sf_lload rfl ?_
          refine sf_lload rfl ?_
          refine sf_lconst (by decide : (10000 : Int64).toInt = 10000) (fun z194 ez194 => ?_)
          refine sf_lmulr (n := 10000) (by omega) (by omega) (fun v195 ev195 => ?_)
          refine sf_call2 rfl rfl rfl ?_
          refine sf_sp (L := [(0, .inl (.long v193)), (2, .inl (.long v195))]) rfl rfl ?_
          refine sf_lload rfl ?_
          refine sf_lconst (by decide : (0 : Int64).toInt = 0) (fun z196 ez196 => ?_)
          refine sf_fl_gt (fun h197 => ?_) (fun h197 => ?_)
          · refine sf_lconst (by decide : (2 : Int64).toInt = 2) (fun z198 ez198 => ?_)
            refine sf_lload rfl ?_
            refine sf_l2 (fun v199 => ?_)
            refine sf_lload rfl ?_
            refine sf_l2 (fun v200 => ?_)
            refine sf_lconst (by decide : (2 : Int64).toInt = 2) (fun z201 ez201 => ?_)
            refine sf_lload rfl ?_
            refine sf_lmul2 (by omega) (by omega) (fun v202 ev202 => ?_)
            refine sf_l2d (by omega) (fun v203 => ?_)
            refine sf_lreturn rfl rfl ?_
            refine sf_lreturn rfl rfl ?_
            exact hR _ 
          · refine sf_lconst (by decide : (0 : Int64).toInt = 0) (fun z204 ez204 => ?_)
            refine sf_lreturn rfl rfl ?_
            refine sf_lreturn rfl rfl ?_
            exact hR _ 
def sm_A_findDuties : List Nat := [53, 54, 58, 59]
set_option maxRecDepth 100000 in
set_option maxHeartbeats 4000000 in
theorem sc_A_findDuties {w0 : wq_W} (hI0 : sf_I w0) {rt : Option wq_V → wq_W → Prop} {xt : Nat → wq_W → Prop} {a_declaration : Int32} (p0 : 0 ≤ a_declaration.toInt) (p1 : a_declaration.toInt ≤ 11) (p2 : ∀ k : Nat, (k : Int) < (sf_a w0 38 a_declaration.toInt.toNat).toInt → 0 ≤ (sf_a w0 55 k).toInt) (hR : ∀ (w : wq_W), sf_I w → sf_m sm_A_findDuties w0 w → rt none w) : ks_A_findDuties [.inl (.ref 51), .inl (.int a_declaration)] w0 rt xt := by
  have hs0 : sf_m sm_A_findDuties w0 w0 := sf_m0
  have hl : ∀ n : Nat, (∀ (w : wq_W) (x2 : Int32), (sf_I w) → (sf_m sm_A_findDuties w0 w) → (0 ≤ x2.toInt) → (x2.toInt ≤ 4) → (4 - x2.toInt < (n : Int)) → ku_A_findDuties rt xt n 7 [(0, .inl (.ref 51)), (1, .inl (.int a_declaration)), (2, .inl (.int x2))] [] w 0 0) := by
    intro n
    induction n with
    | zero =>
      refine ?_
      · intros; omega
    | succ n ih =>
      have i_7 := ih
      intro w x2 I_w s_w l_x2 u_x2 hm
      show kh_A_findDuties_7 rt xt (ku_A_findDuties rt xt n) [(0, .inl (.ref 51)), (1, .inl (.int a_declaration)), (2, .inl (.int x2))] [] w 0 0
      generalize ku_A_findDuties rt xt n = K at i_7 ⊢
      refine sf_iload rfl ?_
      refine sf_aload rfl ?_
      refine sf_getr I_w rfl rfl ?_
      refine sf_getr I_w rfl rfl ?_
      refine sf_iload rfl ?_
      refine sf_iald I_w rfl (by omega) (fun v1 lv1 uv1 ev1 => ?_)
      rw [sf_ma s_w (p := 38) rfl] at ev1
      refine sf_f2_ge (fun h2 => ?_) (fun h2 => ?_)
      · refine sf_vreturn rfl rfl ?_
        exact hR _ I_w s_w 
      · refine sf_aload rfl ?_
        refine sf_getr I_w rfl rfl ?_
        refine sf_iload rfl ?_
        refine sf_aload rfl ?_
        refine sf_iload rfl ?_
        refine sf_iload rfl ?_
        refine sf_iload rfl ?_
        refine sf_call2 rfl rfl rfl ?_
        refine sf_sp (L := [(0, .inl (.int a_declaration)), (1, .inl (.int x2))]) rfl rfl ?_
        refine sf_iload rfl ?_
        refine sf_iconst sf_c4 (fun z3 ez3 => ?_)
        refine sf_imulr (n := 4) (by omega) (by omega) (fun v4 ev4 => ?_)
        refine sf_iload rfl ?_
        refine sf_iadd (by omega) (fun v5 ev5 => ?_)
        refine sf_ireturn rfl rfl ?_
        refine sf_call3 rfl rfl rfl ?_
        refine sf_rv I_w rfl ?_
        refine sc_A_dutyOf I_w (by omega) (by omega) (by omega) (by omega) (by rw [sf_ma s_w (p := 55) rfl]; exact p2 _ (by omega)) (fun v6 => ?_)
        refine sf_last I_w s_w rfl (by omega) rfl rfl (fun w8 Iw8 sw8 kw8 uw8 => ?_)
        clear kw8 uw8
        refine sf_iinc (L' := [(0, .inl (.ref 51)), (1, .inl (.int a_declaration))]) sf_c1 rfl rfl (by omega) (fun v9 ev9 => ?_)
        refine sf_can (L' := [(0, .inl (.ref 51)), (1, .inl (.int a_declaration)), (2, .inl (.int v9))]) rfl ?_
        exact i_7 w8 v9 Iw8 sw8 (by omega) (by omega) (by omega)
  have hl1 := hl 1000000000000
  have i_7 := hl1
  clear hl hl1
  refine sf_sp (L := [(0, .inl (.ref 51)), (1, .inl (.int a_declaration))]) rfl rfl ?_
  generalize ku_A_findDuties rt xt 1000000000000 = K at i_7 ⊢
  refine sf_aload rfl ?_
  refine sf_iload rfl ?_
  refine sf_call2 rfl rfl rfl ?_
  refine sf_rv hI0 rfl ?_
  refine sc_A_findValues hI0 (by omega) (by omega) (fun w10 Iw10 tw10 => ?_)
  have s12 := sf_mt hs0 tw10 rfl
  refine sf_iconst sf_c0 (fun z13 ez13 => ?_)
  refine sf_istore (L' := [(0, .inl (.ref 51)), (1, .inl (.int a_declaration))]) rfl ?_
  refine sf_can (L' := [(0, .inl (.ref 51)), (1, .inl (.int a_declaration)), (2, .inl (.int z13))]) rfl ?_
  exact i_7 w10 z13 Iw10 s12 (by omega) (by omega) (by omega)
def sm_A_assess : List Nat := [52, 53, 54, 57, 58, 59]
set_option maxRecDepth 100000 in
set_option maxHeartbeats 4000000 in
theorem sc_A_assess {w0 : wq_W} (hI0 : sf_I w0) {rt : Option wq_V → wq_W → Prop} {xt : Nat → wq_W → Prop} {a_declaration : Int32} (p0 : 0 ≤ a_declaration.toInt) (p1 : a_declaration.toInt ≤ 11) (p2 : ∀ k : Nat, (k : Int) < (sf_a w0 38 a_declaration.toInt.toNat).toInt → 0 ≤ (sf_a w0 55 k).toInt) (hR : ∀ (w : wq_W), sf_I w → sf_m sm_A_assess w0 w → rt none w) : ks_A_assess [.inl (.ref 51), .inl (.int a_declaration)] w0 rt xt := by
  have hs0 : sf_m sm_A_assess w0 w0 := sf_m0
  have hl : ∀ n : Nat, (∀ (w : wq_W) (x2 : Int32), (sf_I w) → (sf_m sm_A_assess w0 w) → (0 ≤ x2.toInt) → (x2.toInt ≤ 4) → (4 - x2.toInt < (n : Int)) → ku_A_assess rt xt n 6 [(0, .inl (.ref 51)), (1, .inl (.int a_declaration)), (2, .inl (.int x2))] [] w 0 0) := by
    intro n
    induction n with
    | zero =>
      refine ?_
      · intros; omega
    | succ n ih =>
      have i_6 := ih
      intro w x2 I_w s_w l_x2 u_x2 hm
      show kh_A_assess_6 rt xt (ku_A_assess rt xt n) [(0, .inl (.ref 51)), (1, .inl (.int a_declaration)), (2, .inl (.int x2))] [] w 0 0
      generalize ku_A_assess rt xt n = K at i_6 ⊢
      refine sf_iload rfl ?_
      refine sf_aload rfl ?_
      refine sf_getr I_w rfl rfl ?_
      refine sf_getr I_w rfl rfl ?_
      refine sf_iload rfl ?_
      refine sf_iald I_w rfl (by omega) (fun v1 lv1 uv1 ev1 => ?_)
      rw [sf_ma s_w (p := 38) rfl] at ev1
      refine sf_f2_ge (fun h2 => ?_) (fun h2 => ?_)
      · refine sf_aload rfl ?_
        refine sf_iload rfl ?_
        refine sf_call2 rfl rfl rfl ?_
        refine sf_rv I_w rfl ?_
        refine sc_A_findDuties I_w (by omega) (by omega) (by rw [sf_ma s_w (p := 38) rfl]; rw [sf_ma s_w (p := 55) rfl]; exact p2) (fun w3 Iw3 tw3 => ?_)
        have s5 := sf_mt s_w tw3 rfl
        refine sf_vreturn rfl rfl ?_
        exact hR _ Iw3 s5 
      · refine sf_aload rfl ?_
        refine sf_getr I_w rfl rfl ?_
        refine sf_iload rfl ?_
        refine sf_iconst sf_c0 (fun z6 ez6 => ?_)
        refine sf_iast I_w s_w rfl (by omega) (sf_bd _) rfl rfl (fun w7 Iw7 sw7 kw7 uw7 => ?_)
        clear kw7 uw7
        refine sf_aload rfl ?_
        refine sf_iload rfl ?_
        refine sf_aload rfl ?_
        refine sf_getr Iw7 rfl rfl ?_
        refine sf_getr Iw7 rfl rfl ?_
        refine sf_iload rfl ?_
        refine sf_iload rfl ?_
        refine sf_call2 rfl rfl rfl ?_
        refine sf_sp (L := [(0, .inl (.int a_declaration)), (1, .inl (.int x2))]) rfl rfl ?_
        refine sf_iload rfl ?_
        refine sf_iconst sf_c4 (fun z8 ez8 => ?_)
        refine sf_imulr (n := 4) (by omega) (by omega) (fun v9 ev9 => ?_)
        refine sf_iload rfl ?_
        refine sf_iadd (by omega) (fun v10 ev10 => ?_)
        refine sf_ireturn rfl rfl ?_
        refine sf_iald Iw7 rfl (by omega) (fun v11 lv11 uv11 ev11 => ?_)
        clear lv11 uv11
        clear ev11
        refine sf_call3 rfl rfl rfl ?_
        refine sf_rv Iw7 rfl ?_
        refine sf_sp (L := [(0, .inl (.ref 51)), (1, .inl (.int x2)), (2, .inl (.int v11))]) rfl rfl ?_
        refine sf_aload rfl ?_
        refine sf_getr Iw7 rfl rfl ?_
        refine sf_iload rfl ?_
        refine sf_iald Iw7 rfl (by omega) (fun v12 lv12 uv12 ev12 => ?_)
        clear ev12
        refine sf_istore (L' := [(0, .inl (.ref 51)), (1, .inl (.int x2)), (2, .inl (.int v11))]) rfl ?_
        refine sf_iload rfl ?_
        refine sf_iconst sf_cm1 (fun z13 ez13 => ?_)
        refine sf_f2_eq (fun h14 => ?_) (fun h14 => ?_)
        · refine sf_vreturn rfl rfl ?_
          refine sf_iinc (L' := [(0, .inl (.ref 51)), (1, .inl (.int a_declaration))]) sf_c1 rfl rfl (by omega) (fun v15 ev15 => ?_)
          refine sf_can (L' := [(0, .inl (.ref 51)), (1, .inl (.int a_declaration)), (2, .inl (.int v15))]) rfl ?_
          exact i_6 w7 v15 Iw7 sw7 (by omega) (by omega) (by omega)
        · refine sf_iload rfl ?_
          refine sf_aload rfl ?_
          refine sf_getr Iw7 rfl rfl ?_
          refine sf_iload rfl ?_
          refine sf_iald Iw7 rfl (by omega) (fun v16 lv16 uv16 ev16 => ?_)
          clear lv16 uv16
          clear ev16
          refine sf_i2 (fun v17 => ?_)
          refine sf_aload rfl ?_
          refine sf_getr Iw7 rfl rfl ?_
          refine sf_iload rfl ?_
          refine sf_iald Iw7 rfl (by omega) (fun v18 lv18 uv18 ev18 => ?_)
          clear lv18 uv18
          clear ev18
          refine sf_m2 rfl rfl rfl (fun v19 => ?_)
          refine sf_istore (L' := [(3, .inl (.int v12)), (0, .inl (.ref 51)), (1, .inl (.int x2)), (2, .inl (.int v11))]) rfl ?_
          refine sf_aload rfl ?_
          refine sf_getr Iw7 rfl rfl ?_
          refine sf_iload rfl ?_
          refine sf_dup2 rfl rfl ?_
          refine sf_iald Iw7 rfl (by omega) (fun v20 lv20 uv20 ev20 => ?_)
          clear lv20 uv20
          clear ev20
          refine sf_iload rfl ?_
          refine sf_i2 (fun v21 => ?_)
          refine sf_iast Iw7 sw7 rfl (by omega) (sf_bd _) rfl rfl (fun w22 Iw22 sw22 kw22 uw22 => ?_)
          clear kw22 uw22
          refine sf_aload rfl ?_
          refine sf_getr Iw22 rfl rfl ?_
          refine sf_iload rfl ?_
          refine sf_dup2 rfl rfl ?_
          refine sf_iald Iw22 rfl (by omega) (fun v23 lv23 uv23 ev23 => ?_)
          clear lv23 uv23
          clear ev23
          refine sf_iload rfl ?_
          refine sf_i2 (fun v24 => ?_)
          refine sf_iast Iw22 sw22 rfl (by omega) (sf_bd _) rfl rfl (fun w25 Iw25 sw25 kw25 uw25 => ?_)
          clear kw25 uw25
          refine sf_vreturn rfl rfl ?_
          refine sf_iinc (L' := [(0, .inl (.ref 51)), (1, .inl (.int a_declaration))]) sf_c1 rfl rfl (by omega) (fun v26 ev26 => ?_)
          refine sf_can (L' := [(0, .inl (.ref 51)), (1, .inl (.int a_declaration)), (2, .inl (.int v26))]) rfl ?_
          exact i_6 w25 v26 Iw25 sw25 (by omega) (by omega) (by omega)
  have hl1 := hl 1000000000000
  have i_6 := hl1
  clear hl hl1
  refine sf_sp (L := [(0, .inl (.ref 51)), (1, .inl (.int a_declaration))]) rfl rfl ?_
  generalize ku_A_assess rt xt 1000000000000 = K at i_6 ⊢
  refine sf_aload rfl ?_
  refine sf_call1 rfl rfl rfl ?_
  refine sf_rv hI0 rfl ?_
  refine sf_sp (L := [(0, .inl (.ref 51))]) rfl rfl ?_
  refine sf_aload rfl ?_
  refine sf_getr hI0 rfl rfl ?_
  refine sf_getr hI0 rfl rfl ?_
  refine sf_iconst sf_c0 (fun z27 ez27 => ?_)
  refine sf_aload rfl ?_
  refine sf_getr hI0 rfl rfl ?_
  refine sf_iconst sf_c0 (fun z28 ez28 => ?_)
  refine sf_iconst sf_c8 (fun z29 ez29 => ?_)
  refine sf_cpy hI0 hs0 rfl rfl (by decide) (by omega) (by omega) (by omega) rfl rfl rfl (by decide) (fun w30 Iw30 sw30 kw30 uw30 => ?_)
  clear kw30 uw30
  refine sf_vreturn rfl rfl ?_
  refine sf_iconst sf_c0 (fun z31 ez31 => ?_)
  refine sf_istore (L' := [(0, .inl (.ref 51)), (1, .inl (.int a_declaration))]) rfl ?_
  refine sf_can (L' := [(0, .inl (.ref 51)), (1, .inl (.int a_declaration)), (2, .inl (.int z31))]) rfl ?_
  exact i_6 w30 z31 Iw30 sw30 (by omega) (by omega) (by omega)
def sm_A_assessAnew : List Nat := [52, 53, 54, 57, 58, 59]
set_option maxRecDepth 100000 in
set_option maxHeartbeats 4000000 in
theorem sc_A_assessAnew {w0 : wq_W} (hI0 : sf_I w0) {rt : Option wq_V → wq_W → Prop} {xt : Nat → wq_W → Prop} {a_declaration : Int32} (p0 : 0 ≤ a_declaration.toInt) (p1 : a_declaration.toInt ≤ 11) (p2 : ∀ k : Nat, (k : Int) < (sf_a w0 38 a_declaration.toInt.toNat).toInt → 0 ≤ (sf_a w0 55 k).toInt) (hR : ∀ (w : wq_W), sf_I w → sf_m sm_A_assessAnew w0 w → rt none w) : ks_A_assessAnew [.inl (.ref 51), .inl (.int a_declaration)] w0 rt xt := by
  have hs0 : sf_m sm_A_assessAnew w0 w0 := sf_m0
  have hl : ∀ n : Nat, (∀ (w : wq_W) (x2 : Int32), (sf_I w) → (sf_m sm_A_assessAnew w0 w) → (0 ≤ x2.toInt) → (x2.toInt ≤ 4) → (10 - x2.toInt < (n : Int)) → ku_A_assessAnew rt xt n 6 [(0, .inl (.ref 51)), (1, .inl (.int a_declaration)), (2, .inl (.int x2))] [] w 0 0) ∧ (∀ (w : wq_W) (x2 : Int32), (sf_I w) → (sf_m sm_A_assessAnew w0 w) → (0 ≤ x2.toInt) → (x2.toInt ≤ 4) → (4 - x2.toInt < (n : Int)) → ku_A_assessAnew rt xt n 78 [(0, .inl (.ref 51)), (1, .inl (.int a_declaration)), (2, .inl (.int x2))] [] w 0 0) := by
    intro n
    induction n with
    | zero =>
      refine ⟨?_, ?_⟩
      · intros; omega
      · intros; omega
    | succ n ih =>
      obtain ⟨i_6, i_78⟩ := ih
      refine ⟨?_, ?_⟩
      · intro w x2 I_w s_w l_x2 u_x2 hm
        show kh_A_assessAnew_6 rt xt (ku_A_assessAnew rt xt n) [(0, .inl (.ref 51)), (1, .inl (.int a_declaration)), (2, .inl (.int x2))] [] w 0 0
        generalize ku_A_assessAnew rt xt n = K at i_6 i_78 ⊢
        refine sf_iload rfl ?_
        refine sf_aload rfl ?_
        refine sf_getr I_w rfl rfl ?_
        refine sf_getr I_w rfl rfl ?_
        refine sf_iload rfl ?_
        refine sf_iald I_w rfl (by omega) (fun v1 lv1 uv1 ev1 => ?_)
        rw [sf_ma s_w (p := 38) rfl] at ev1
        refine sf_f2_ge (fun h2 => ?_) (fun h2 => ?_)
        · refine sf_iconst sf_c0 (fun z3 ez3 => ?_)
          refine sf_istore (L' := [(0, .inl (.ref 51)), (1, .inl (.int a_declaration))]) rfl ?_
          refine sf_can (L' := [(0, .inl (.ref 51)), (1, .inl (.int a_declaration)), (2, .inl (.int z3))]) rfl ?_
          exact i_78 w z3 I_w s_w (by omega) (by omega) (by omega)
        · refine sf_iload rfl ?_
          refine sf_iload rfl ?_
          refine sf_call2 rfl rfl rfl ?_
          refine sf_sp (L := [(0, .inl (.int a_declaration)), (1, .inl (.int x2))]) rfl rfl ?_
          refine sf_iload rfl ?_
          refine sf_iconst sf_c4 (fun z4 ez4 => ?_)
          refine sf_imulr (n := 4) (by omega) (by omega) (fun v5 ev5 => ?_)
          refine sf_iload rfl ?_
          refine sf_iadd (by omega) (fun v6 ev6 => ?_)
          refine sf_ireturn rfl rfl ?_
          refine sf_istore (L' := [(0, .inl (.ref 51)), (1, .inl (.int a_declaration)), (2, .inl (.int x2))]) rfl ?_
          refine sf_aload rfl ?_
          refine sf_getr I_w rfl rfl ?_
          refine sf_iload rfl ?_
          refine sf_aload rfl ?_
          refine sf_getr I_w rfl rfl ?_
          refine sf_getr I_w rfl rfl ?_
          refine sf_iload rfl ?_
          refine sf_iald I_w rfl (by omega) (fun v7 lv7 uv7 ev7 => ?_)
          clear lv7 uv7
          clear ev7
          refine sf_iast I_w s_w rfl (by omega) (sf_bd _) rfl rfl (fun w8 Iw8 sw8 kw8 uw8 => ?_)
          clear kw8 uw8
          refine sf_aload rfl ?_
          refine sf_iload rfl ?_
          refine sf_aload rfl ?_
          refine sf_getr Iw8 rfl rfl ?_
          refine sf_getr Iw8 rfl rfl ?_
          refine sf_iload rfl ?_
          refine sf_iald Iw8 rfl (by omega) (fun v9 lv9 uv9 ev9 => ?_)
          clear ev9
          refine sf_aload rfl ?_
          refine sf_getr Iw8 rfl rfl ?_
          refine sf_iload rfl ?_
          refine sf_iald Iw8 rfl (by omega) (fun v10 lv10 uv10 ev10 => ?_)
          clear lv10 uv10
          clear ev10
          refine sf_aload rfl ?_
          refine sf_getr Iw8 rfl rfl ?_
          refine sf_getr Iw8 rfl rfl ?_
          refine sf_iload rfl ?_
          refine sf_iald Iw8 rfl (by omega) (fun v11 lv11 uv11 ev11 => ?_)
          clear lv11 uv11
          clear ev11
          refine sf_i2 (fun v12 => ?_)
          refine sf_call4 rfl rfl rfl ?_
          refine sf_rv Iw8 rfl ?_
          refine sf_sp (L := [(0, .inl (.ref 51)), (1, .inl (.int x2)), (2, .inl (.int v9)), (3, .inl (.int v12))]) rfl rfl ?_
          refine sf_iload rfl ?_
          refine sf_iconst sf_cm1 (fun z13 ez13 => ?_)
          refine sf_f2_eq (fun h14 => ?_) (fun h14 => ?_)
          · refine sf_vreturn rfl rfl ?_
            refine sf_iinc (L' := [(3, .inl (.int v6)), (0, .inl (.ref 51)), (1, .inl (.int a_declaration))]) sf_c1 rfl rfl (by omega) (fun v15 ev15 => ?_)
            refine sf_can (L' := [(0, .inl (.ref 51)), (1, .inl (.int a_declaration)), (2, .inl (.int v15))]) rfl ?_
            exact i_6 w8 v15 Iw8 sw8 (by omega) (by omega) (by omega)
          · refine sf_iload rfl ?_
            refine sf_f1_le (fun h16 => ?_) (fun h16 => ?_)
            · refine sf_vreturn rfl rfl ?_
              refine sf_iinc (L' := [(3, .inl (.int v6)), (0, .inl (.ref 51)), (1, .inl (.int a_declaration))]) sf_c1 rfl rfl (by omega) (fun v17 ev17 => ?_)
              refine sf_can (L' := [(0, .inl (.ref 51)), (1, .inl (.int a_declaration)), (2, .inl (.int v17))]) rfl ?_
              exact i_6 w8 v17 Iw8 sw8 (by omega) (by omega) (by omega)
            · refine sf_aload rfl ?_
              refine sf_getr Iw8 rfl rfl ?_
              refine sf_iload rfl ?_
              refine sf_dup2 rfl rfl ?_
              refine sf_iald Iw8 rfl (by omega) (fun v18 lv18 uv18 ev18 => ?_)
              clear lv18 uv18
              clear ev18
              refine sf_iload rfl ?_
              refine sf_i2 (fun v19 => ?_)
              refine sf_iast Iw8 sw8 rfl (by omega) (sf_bd _) rfl rfl (fun w20 Iw20 sw20 kw20 uw20 => ?_)
              clear kw20 uw20
              refine sf_aload rfl ?_
              refine sf_getr Iw20 rfl rfl ?_
              refine sf_iload rfl ?_
              refine sf_dup2 rfl rfl ?_
              refine sf_iald Iw20 rfl (by omega) (fun v21 lv21 uv21 ev21 => ?_)
              clear lv21 uv21
              clear ev21
              refine sf_iload rfl ?_
              refine sf_i2 (fun v22 => ?_)
              refine sf_iast Iw20 sw20 rfl (by omega) (sf_bd _) rfl rfl (fun w23 Iw23 sw23 kw23 uw23 => ?_)
              clear kw23 uw23
              refine sf_vreturn rfl rfl ?_
              refine sf_iinc (L' := [(3, .inl (.int v6)), (0, .inl (.ref 51)), (1, .inl (.int a_declaration))]) sf_c1 rfl rfl (by omega) (fun v24 ev24 => ?_)
              refine sf_can (L' := [(0, .inl (.ref 51)), (1, .inl (.int a_declaration)), (2, .inl (.int v24))]) rfl ?_
              exact i_6 w23 v24 Iw23 sw23 (by omega) (by omega) (by omega)
      · intro w x2 I_w s_w l_x2 u_x2 hm
        show kh_A_assessAnew_78 rt xt (ku_A_assessAnew rt xt n) [(0, .inl (.ref 51)), (1, .inl (.int a_declaration)), (2, .inl (.int x2))] [] w 0 0
        generalize ku_A_assessAnew rt xt n = K at i_6 i_78 ⊢
        refine sf_iload rfl ?_
        refine sf_aload rfl ?_
        refine sf_getr I_w rfl rfl ?_
        refine sf_getr I_w rfl rfl ?_
        refine sf_iload rfl ?_
        refine sf_iald I_w rfl (by omega) (fun v25 lv25 uv25 ev25 => ?_)
        rw [sf_ma s_w (p := 38) rfl] at ev25
        refine sf_f2_ge (fun h26 => ?_) (fun h26 => ?_)
        · refine sf_aload rfl ?_
          refine sf_iload rfl ?_
          refine sf_call2 rfl rfl rfl ?_
          refine sf_rv I_w rfl ?_
          refine sc_A_findDuties I_w (by omega) (by omega) (by rw [sf_ma s_w (p := 38) rfl]; rw [sf_ma s_w (p := 55) rfl]; exact p2) (fun w27 Iw27 tw27 => ?_)
          have s29 := sf_mt s_w tw27 rfl
          refine sf_vreturn rfl rfl ?_
          exact hR _ Iw27 s29 
        · refine sf_iload rfl ?_
          refine sf_iload rfl ?_
          refine sf_call2 rfl rfl rfl ?_
          refine sf_sp (L := [(0, .inl (.int a_declaration)), (1, .inl (.int x2))]) rfl rfl ?_
          refine sf_iload rfl ?_
          refine sf_iconst sf_c4 (fun z30 ez30 => ?_)
          refine sf_imulr (n := 4) (by omega) (by omega) (fun v31 ev31 => ?_)
          refine sf_iload rfl ?_
          refine sf_iadd (by omega) (fun v32 ev32 => ?_)
          refine sf_ireturn rfl rfl ?_
          refine sf_istore (L' := [(0, .inl (.ref 51)), (1, .inl (.int a_declaration)), (2, .inl (.int x2))]) rfl ?_
          refine sf_aload rfl ?_
          refine sf_getr I_w rfl rfl ?_
          refine sf_iload rfl ?_
          refine sf_iald I_w rfl (by omega) (fun v33 lv33 uv33 ev33 => ?_)
          clear ev33
          refine sf_aload rfl ?_
          refine sf_getr I_w rfl rfl ?_
          refine sf_getr I_w rfl rfl ?_
          refine sf_iload rfl ?_
          refine sf_iald I_w rfl (by omega) (fun v34 lv34 uv34 ev34 => ?_)
          clear ev34
          refine sf_f2_eq (fun h35 => ?_) (fun h35 => ?_)
          · refine sf_aload rfl ?_
            refine sf_iload rfl ?_
            refine sf_aload rfl ?_
            refine sf_getr I_w rfl rfl ?_
            refine sf_getr I_w rfl rfl ?_
            refine sf_iload rfl ?_
            refine sf_iald I_w rfl (by omega) (fun v36 lv36 uv36 ev36 => ?_)
            clear lv36 uv36
            clear ev36
            refine sf_call3 rfl rfl rfl ?_
            refine sf_rv I_w rfl ?_
            refine sf_sp (L := [(0, .inl (.ref 51)), (1, .inl (.int x2)), (2, .inl (.int v36))]) rfl rfl ?_
            refine sf_aload rfl ?_
            refine sf_getr I_w rfl rfl ?_
            refine sf_iload rfl ?_
            refine sf_iald I_w rfl (by omega) (fun v37 lv37 uv37 ev37 => ?_)
            clear ev37
            refine sf_istore (L' := [(0, .inl (.ref 51)), (1, .inl (.int x2)), (2, .inl (.int v36))]) rfl ?_
            refine sf_iload rfl ?_
            refine sf_iconst sf_cm1 (fun z38 ez38 => ?_)
            refine sf_f2_eq (fun h39 => ?_) (fun h39 => ?_)
            · refine sf_vreturn rfl rfl ?_
              refine sf_iinc (L' := [(3, .inl (.int v32)), (0, .inl (.ref 51)), (1, .inl (.int a_declaration))]) sf_c1 rfl rfl (by omega) (fun v40 ev40 => ?_)
              refine sf_can (L' := [(0, .inl (.ref 51)), (1, .inl (.int a_declaration)), (2, .inl (.int v40))]) rfl ?_
              exact i_78 w v40 I_w s_w (by omega) (by omega) (by omega)
            · refine sf_iload rfl ?_
              refine sf_aload rfl ?_
              refine sf_getr I_w rfl rfl ?_
              refine sf_iload rfl ?_
              refine sf_iald I_w rfl (by omega) (fun v41 lv41 uv41 ev41 => ?_)
              clear lv41 uv41
              clear ev41
              refine sf_i2 (fun v42 => ?_)
              refine sf_aload rfl ?_
              refine sf_getr I_w rfl rfl ?_
              refine sf_iload rfl ?_
              refine sf_iald I_w rfl (by omega) (fun v43 lv43 uv43 ev43 => ?_)
              clear lv43 uv43
              clear ev43
              refine sf_m2 rfl rfl rfl (fun v44 => ?_)
              refine sf_istore (L' := [(3, .inl (.int v37)), (0, .inl (.ref 51)), (1, .inl (.int x2)), (2, .inl (.int v36))]) rfl ?_
              refine sf_aload rfl ?_
              refine sf_getr I_w rfl rfl ?_
              refine sf_iload rfl ?_
              refine sf_dup2 rfl rfl ?_
              refine sf_iald I_w rfl (by omega) (fun v45 lv45 uv45 ev45 => ?_)
              clear lv45 uv45
              clear ev45
              refine sf_iload rfl ?_
              refine sf_i2 (fun v46 => ?_)
              refine sf_iast I_w s_w rfl (by omega) (sf_bd _) rfl rfl (fun w47 Iw47 sw47 kw47 uw47 => ?_)
              clear kw47 uw47
              refine sf_aload rfl ?_
              refine sf_getr Iw47 rfl rfl ?_
              refine sf_iload rfl ?_
              refine sf_dup2 rfl rfl ?_
              refine sf_iald Iw47 rfl (by omega) (fun v48 lv48 uv48 ev48 => ?_)
              clear lv48 uv48
              clear ev48
              refine sf_iload rfl ?_
              refine sf_i2 (fun v49 => ?_)
              refine sf_iast Iw47 sw47 rfl (by omega) (sf_bd _) rfl rfl (fun w50 Iw50 sw50 kw50 uw50 => ?_)
              clear kw50 uw50
              refine sf_vreturn rfl rfl ?_
              refine sf_iinc (L' := [(3, .inl (.int v32)), (0, .inl (.ref 51)), (1, .inl (.int a_declaration))]) sf_c1 rfl rfl (by omega) (fun v51 ev51 => ?_)
              refine sf_can (L' := [(0, .inl (.ref 51)), (1, .inl (.int a_declaration)), (2, .inl (.int v51))]) rfl ?_
              exact i_78 w50 v51 Iw50 sw50 (by omega) (by omega) (by omega)
          · refine sf_aload rfl ?_
            refine sf_iload rfl ?_
            refine sf_aload rfl ?_
            refine sf_getr I_w rfl rfl ?_
            refine sf_getr I_w rfl rfl ?_
            refine sf_iload rfl ?_
            refine sf_iald I_w rfl (by omega) (fun v52 lv52 uv52 ev52 => ?_)
            clear ev52
            refine sf_aload rfl ?_
            refine sf_getr I_w rfl rfl ?_
            refine sf_iload rfl ?_
            refine sf_iald I_w rfl (by omega) (fun v53 lv53 uv53 ev53 => ?_)
            clear lv53 uv53
            clear ev53
            refine sf_call4 rfl rfl rfl ?_
            refine sf_rv I_w rfl ?_
            refine sf_sp (L := [(0, .inl (.ref 51)), (1, .inl (.int x2)), (2, .inl (.int v52)), (3, .inl (.int v53))]) rfl rfl ?_
            refine sf_iload rfl ?_
            refine sf_iconst sf_cm1 (fun z54 ez54 => ?_)
            refine sf_f2_eq (fun h55 => ?_) (fun h55 => ?_)
            · refine sf_vreturn rfl rfl ?_
              refine sf_aload rfl ?_
              refine sf_iload rfl ?_
              refine sf_aload rfl ?_
              refine sf_getr I_w rfl rfl ?_
              refine sf_getr I_w rfl rfl ?_
              refine sf_iload rfl ?_
              refine sf_iald I_w rfl (by omega) (fun v56 lv56 uv56 ev56 => ?_)
              clear lv56 uv56
              clear ev56
              refine sf_call3 rfl rfl rfl ?_
              refine sf_rv I_w rfl ?_
              refine sf_sp (L := [(0, .inl (.ref 51)), (1, .inl (.int x2)), (2, .inl (.int v56))]) rfl rfl ?_
              refine sf_aload rfl ?_
              refine sf_getr I_w rfl rfl ?_
              refine sf_iload rfl ?_
              refine sf_iald I_w rfl (by omega) (fun v57 lv57 uv57 ev57 => ?_)
              clear ev57
              refine sf_istore (L' := [(0, .inl (.ref 51)), (1, .inl (.int x2)), (2, .inl (.int v56))]) rfl ?_
              refine sf_iload rfl ?_
              refine sf_iconst sf_cm1 (fun z58 ez58 => ?_)
              refine sf_f2_eq (fun h59 => ?_) (fun h59 => ?_)
              · refine sf_vreturn rfl rfl ?_
                refine sf_iinc (L' := [(3, .inl (.int v32)), (0, .inl (.ref 51)), (1, .inl (.int a_declaration))]) sf_c1 rfl rfl (by omega) (fun v60 ev60 => ?_)
                refine sf_can (L' := [(0, .inl (.ref 51)), (1, .inl (.int a_declaration)), (2, .inl (.int v60))]) rfl ?_
                exact i_78 w v60 I_w s_w (by omega) (by omega) (by omega)
              · refine sf_iload rfl ?_
                refine sf_aload rfl ?_
                refine sf_getr I_w rfl rfl ?_
                refine sf_iload rfl ?_
                refine sf_iald I_w rfl (by omega) (fun v61 lv61 uv61 ev61 => ?_)
                clear lv61 uv61
                clear ev61
                refine sf_i2 (fun v62 => ?_)
                refine sf_aload rfl ?_
                refine sf_getr I_w rfl rfl ?_
                refine sf_iload rfl ?_
                refine sf_iald I_w rfl (by omega) (fun v63 lv63 uv63 ev63 => ?_)
                clear lv63 uv63
                clear ev63
                refine sf_m2 rfl rfl rfl (fun v64 => ?_)
                refine sf_istore (L' := [(3, .inl (.int v57)), (0, .inl (.ref 51)), (1, .inl (.int x2)), (2, .inl (.int v56))]) rfl ?_
                refine sf_aload rfl ?_
                refine sf_getr I_w rfl rfl ?_
                refine sf_iload rfl ?_
                refine sf_dup2 rfl rfl ?_
                refine sf_iald I_w rfl (by omega) (fun v65 lv65 uv65 ev65 => ?_)
                clear lv65 uv65
                clear ev65
                refine sf_iload rfl ?_
                refine sf_i2 (fun v66 => ?_)
                refine sf_iast I_w s_w rfl (by omega) (sf_bd _) rfl rfl (fun w67 Iw67 sw67 kw67 uw67 => ?_)
                clear kw67 uw67
                refine sf_aload rfl ?_
                refine sf_getr Iw67 rfl rfl ?_
                refine sf_iload rfl ?_
                refine sf_dup2 rfl rfl ?_
                refine sf_iald Iw67 rfl (by omega) (fun v68 lv68 uv68 ev68 => ?_)
                clear lv68 uv68
                clear ev68
                refine sf_iload rfl ?_
                refine sf_i2 (fun v69 => ?_)
                refine sf_iast Iw67 sw67 rfl (by omega) (sf_bd _) rfl rfl (fun w70 Iw70 sw70 kw70 uw70 => ?_)
                clear kw70 uw70
                refine sf_vreturn rfl rfl ?_
                refine sf_iinc (L' := [(3, .inl (.int v32)), (0, .inl (.ref 51)), (1, .inl (.int a_declaration))]) sf_c1 rfl rfl (by omega) (fun v71 ev71 => ?_)
                refine sf_can (L' := [(0, .inl (.ref 51)), (1, .inl (.int a_declaration)), (2, .inl (.int v71))]) rfl ?_
                exact i_78 w70 v71 Iw70 sw70 (by omega) (by omega) (by omega)
            · refine sf_iload rfl ?_
              refine sf_f1_le (fun h72 => ?_) (fun h72 => ?_)
              · refine sf_vreturn rfl rfl ?_
                refine sf_aload rfl ?_
                refine sf_iload rfl ?_
                refine sf_aload rfl ?_
                refine sf_getr I_w rfl rfl ?_
                refine sf_getr I_w rfl rfl ?_
                refine sf_iload rfl ?_
                refine sf_iald I_w rfl (by omega) (fun v73 lv73 uv73 ev73 => ?_)
                clear lv73 uv73
                clear ev73
                refine sf_call3 rfl rfl rfl ?_
                refine sf_rv I_w rfl ?_
                refine sf_sp (L := [(0, .inl (.ref 51)), (1, .inl (.int x2)), (2, .inl (.int v73))]) rfl rfl ?_
                refine sf_aload rfl ?_
                refine sf_getr I_w rfl rfl ?_
                refine sf_iload rfl ?_
                refine sf_iald I_w rfl (by omega) (fun v74 lv74 uv74 ev74 => ?_)
                clear ev74
                refine sf_istore (L' := [(0, .inl (.ref 51)), (1, .inl (.int x2)), (2, .inl (.int v73))]) rfl ?_
                refine sf_iload rfl ?_
                refine sf_iconst sf_cm1 (fun z75 ez75 => ?_)
                refine sf_f2_eq (fun h76 => ?_) (fun h76 => ?_)
                · refine sf_vreturn rfl rfl ?_
                  refine sf_iinc (L' := [(3, .inl (.int v32)), (0, .inl (.ref 51)), (1, .inl (.int a_declaration))]) sf_c1 rfl rfl (by omega) (fun v77 ev77 => ?_)
                  refine sf_can (L' := [(0, .inl (.ref 51)), (1, .inl (.int a_declaration)), (2, .inl (.int v77))]) rfl ?_
                  exact i_78 w v77 I_w s_w (by omega) (by omega) (by omega)
                · refine sf_iload rfl ?_
                  refine sf_aload rfl ?_
                  refine sf_getr I_w rfl rfl ?_
                  refine sf_iload rfl ?_
                  refine sf_iald I_w rfl (by omega) (fun v78 lv78 uv78 ev78 => ?_)
                  clear lv78 uv78
                  clear ev78
                  refine sf_i2 (fun v79 => ?_)
                  refine sf_aload rfl ?_
                  refine sf_getr I_w rfl rfl ?_
                  refine sf_iload rfl ?_
                  refine sf_iald I_w rfl (by omega) (fun v80 lv80 uv80 ev80 => ?_)
                  clear lv80 uv80
                  clear ev80
                  refine sf_m2 rfl rfl rfl (fun v81 => ?_)
                  refine sf_istore (L' := [(3, .inl (.int v74)), (0, .inl (.ref 51)), (1, .inl (.int x2)), (2, .inl (.int v73))]) rfl ?_
                  refine sf_aload rfl ?_
                  refine sf_getr I_w rfl rfl ?_
                  refine sf_iload rfl ?_
                  refine sf_dup2 rfl rfl ?_
                  refine sf_iald I_w rfl (by omega) (fun v82 lv82 uv82 ev82 => ?_)
                  clear lv82 uv82
                  clear ev82
                  refine sf_iload rfl ?_
                  refine sf_i2 (fun v83 => ?_)
                  refine sf_iast I_w s_w rfl (by omega) (sf_bd _) rfl rfl (fun w84 Iw84 sw84 kw84 uw84 => ?_)
                  clear kw84 uw84
                  refine sf_aload rfl ?_
                  refine sf_getr Iw84 rfl rfl ?_
                  refine sf_iload rfl ?_
                  refine sf_dup2 rfl rfl ?_
                  refine sf_iald Iw84 rfl (by omega) (fun v85 lv85 uv85 ev85 => ?_)
                  clear lv85 uv85
                  clear ev85
                  refine sf_iload rfl ?_
                  refine sf_i2 (fun v86 => ?_)
                  refine sf_iast Iw84 sw84 rfl (by omega) (sf_bd _) rfl rfl (fun w87 Iw87 sw87 kw87 uw87 => ?_)
                  clear kw87 uw87
                  refine sf_vreturn rfl rfl ?_
                  refine sf_iinc (L' := [(3, .inl (.int v32)), (0, .inl (.ref 51)), (1, .inl (.int a_declaration))]) sf_c1 rfl rfl (by omega) (fun v88 ev88 => ?_)
                  refine sf_can (L' := [(0, .inl (.ref 51)), (1, .inl (.int a_declaration)), (2, .inl (.int v88))]) rfl ?_
                  exact i_78 w87 v88 Iw87 sw87 (by omega) (by omega) (by omega)
              · refine sf_aload rfl ?_
                refine sf_getr I_w rfl rfl ?_
                refine sf_iload rfl ?_
                refine sf_dup2 rfl rfl ?_
                refine sf_iald I_w rfl (by omega) (fun v89 lv89 uv89 ev89 => ?_)
                clear lv89 uv89
                clear ev89
                refine sf_iload rfl ?_
                refine sf_i2 (fun v90 => ?_)
                refine sf_iast I_w s_w rfl (by omega) (sf_bd _) rfl rfl (fun w91 Iw91 sw91 kw91 uw91 => ?_)
                clear kw91 uw91
                refine sf_aload rfl ?_
                refine sf_getr Iw91 rfl rfl ?_
                refine sf_iload rfl ?_
                refine sf_dup2 rfl rfl ?_
                refine sf_iald Iw91 rfl (by omega) (fun v92 lv92 uv92 ev92 => ?_)
                clear lv92 uv92
                clear ev92
                refine sf_iload rfl ?_
                refine sf_i2 (fun v93 => ?_)
                refine sf_iast Iw91 sw91 rfl (by omega) (sf_bd _) rfl rfl (fun w94 Iw94 sw94 kw94 uw94 => ?_)
                clear kw94 uw94
                refine sf_vreturn rfl rfl ?_
                refine sf_aload rfl ?_
                refine sf_iload rfl ?_
                refine sf_aload rfl ?_
                refine sf_getr Iw94 rfl rfl ?_
                refine sf_getr Iw94 rfl rfl ?_
                refine sf_iload rfl ?_
                refine sf_iald Iw94 rfl (by omega) (fun v95 lv95 uv95 ev95 => ?_)
                clear lv95 uv95
                clear ev95
                refine sf_call3 rfl rfl rfl ?_
                refine sf_rv Iw94 rfl ?_
                refine sf_sp (L := [(0, .inl (.ref 51)), (1, .inl (.int x2)), (2, .inl (.int v95))]) rfl rfl ?_
                refine sf_aload rfl ?_
                refine sf_getr Iw94 rfl rfl ?_
                refine sf_iload rfl ?_
                refine sf_iald Iw94 rfl (by omega) (fun v96 lv96 uv96 ev96 => ?_)
                clear ev96
                refine sf_istore (L' := [(0, .inl (.ref 51)), (1, .inl (.int x2)), (2, .inl (.int v95))]) rfl ?_
                refine sf_iload rfl ?_
                refine sf_iconst sf_cm1 (fun z97 ez97 => ?_)
                refine sf_f2_eq (fun h98 => ?_) (fun h98 => ?_)
                · refine sf_vreturn rfl rfl ?_
                  refine sf_iinc (L' := [(3, .inl (.int v32)), (0, .inl (.ref 51)), (1, .inl (.int a_declaration))]) sf_c1 rfl rfl (by omega) (fun v99 ev99 => ?_)
                  refine sf_can (L' := [(0, .inl (.ref 51)), (1, .inl (.int a_declaration)), (2, .inl (.int v99))]) rfl ?_
                  exact i_78 w94 v99 Iw94 sw94 (by omega) (by omega) (by omega)
                · refine sf_iload rfl ?_
                  refine sf_aload rfl ?_
                  refine sf_getr Iw94 rfl rfl ?_
                  refine sf_iload rfl ?_
                  refine sf_iald Iw94 rfl (by omega) (fun v100 lv100 uv100 ev100 => ?_)
                  clear lv100 uv100
                  clear ev100
                  refine sf_i2 (fun v101 => ?_)
                  refine sf_aload rfl ?_
                  refine sf_getr Iw94 rfl rfl ?_
                  refine sf_iload rfl ?_
                  refine sf_iald Iw94 rfl (by omega) (fun v102 lv102 uv102 ev102 => ?_)
                  clear lv102 uv102
                  clear ev102
                  refine sf_m2 rfl rfl rfl (fun v103 => ?_)
                  refine sf_istore (L' := [(3, .inl (.int v96)), (0, .inl (.ref 51)), (1, .inl (.int x2)), (2, .inl (.int v95))]) rfl ?_
                  refine sf_aload rfl ?_
                  refine sf_getr Iw94 rfl rfl ?_
                  refine sf_iload rfl ?_
                  refine sf_dup2 rfl rfl ?_
                  refine sf_iald Iw94 rfl (by omega) (fun v104 lv104 uv104 ev104 => ?_)
                  clear lv104 uv104
                  clear ev104
                  refine sf_iload rfl ?_
                  refine sf_i2 (fun v105 => ?_)
                  refine sf_iast Iw94 sw94 rfl (by omega) (sf_bd _) rfl rfl (fun w106 Iw106 sw106 kw106 uw106 => ?_)
                  clear kw106 uw106
                  refine sf_aload rfl ?_
                  refine sf_getr Iw106 rfl rfl ?_
                  refine sf_iload rfl ?_
                  refine sf_dup2 rfl rfl ?_
                  refine sf_iald Iw106 rfl (by omega) (fun v107 lv107 uv107 ev107 => ?_)
                  clear lv107 uv107
                  clear ev107
                  refine sf_iload rfl ?_
                  refine sf_i2 (fun v108 => ?_)
                  refine sf_iast Iw106 sw106 rfl (by omega) (sf_bd _) rfl rfl (fun w109 Iw109 sw109 kw109 uw109 => ?_)
                  clear kw109 uw109
                  refine sf_vreturn rfl rfl ?_
                  refine sf_iinc (L' := [(3, .inl (.int v32)), (0, .inl (.ref 51)), (1, .inl (.int a_declaration))]) sf_c1 rfl rfl (by omega) (fun v110 ev110 => ?_)
                  refine sf_can (L' := [(0, .inl (.ref 51)), (1, .inl (.int a_declaration)), (2, .inl (.int v110))]) rfl ?_
                  exact i_78 w109 v110 Iw109 sw109 (by omega) (by omega) (by omega)
  have hl1 := hl 1000000000000
  obtain ⟨i_6, i_78⟩ := hl1
  clear hl
  refine sf_sp (L := [(0, .inl (.ref 51)), (1, .inl (.int a_declaration))]) rfl rfl ?_
  generalize ku_A_assessAnew rt xt 1000000000000 = K at i_6 i_78 ⊢
  refine sf_aload rfl ?_
  refine sf_call1 rfl rfl rfl ?_
  refine sf_rv hI0 rfl ?_
  refine sf_sp (L := [(0, .inl (.ref 51))]) rfl rfl ?_
  refine sf_aload rfl ?_
  refine sf_getr hI0 rfl rfl ?_
  refine sf_getr hI0 rfl rfl ?_
  refine sf_iconst sf_c0 (fun z111 ez111 => ?_)
  refine sf_aload rfl ?_
  refine sf_getr hI0 rfl rfl ?_
  refine sf_iconst sf_c0 (fun z112 ez112 => ?_)
  refine sf_iconst sf_c8 (fun z113 ez113 => ?_)
  refine sf_cpy hI0 hs0 rfl rfl (by decide) (by omega) (by omega) (by omega) rfl rfl rfl (by decide) (fun w114 Iw114 sw114 kw114 uw114 => ?_)
  clear kw114 uw114
  refine sf_vreturn rfl rfl ?_
  refine sf_iconst sf_c0 (fun z115 ez115 => ?_)
  refine sf_istore (L' := [(0, .inl (.ref 51)), (1, .inl (.int a_declaration))]) rfl ?_
  refine sf_can (L' := [(0, .inl (.ref 51)), (1, .inl (.int a_declaration)), (2, .inl (.int z115))]) rfl ?_
  exact i_6 w114 z115 Iw114 sw114 (by omega) (by omega) (by omega)
def sm_A_book : List Nat := [22, 48, 49, 50]
set_option maxRecDepth 100000 in
set_option maxHeartbeats 4000000 in
theorem sc_A_book {w0 : wq_W} (hI0 : sf_I w0) {rt : Option wq_V → wq_W → Prop} {xt : Nat → wq_W → Prop} {a_declaration : Int32} (p0 : 0 ≤ a_declaration.toInt) (p1 : a_declaration.toInt ≤ 11) (hR : ∀ (w : wq_W), sf_I w → sf_m sm_A_book w0 w → rt none w) : ks_A_book [.inl (.ref 51), .inl (.int a_declaration)] w0 rt xt := by
  have hs0 : sf_m sm_A_book w0 w0 := sf_m0
  have hl : ∀ n : Nat, (∀ (w : wq_W) (x2 : Int32), (sf_I w) → (sf_m sm_A_book w0 w) → (0 ≤ x2.toInt) → (x2.toInt ≤ 4) → (4 - x2.toInt < (n : Int)) → ku_A_book rt xt n 2 [(0, .inl (.ref 51)), (1, .inl (.int a_declaration)), (2, .inl (.int x2))] [] w 0 0) := by
    intro n
    induction n with
    | zero =>
      refine ?_
      · intros; omega
    | succ n ih =>
      have i_2 := ih
      intro w x2 I_w s_w l_x2 u_x2 hm
      show kh_A_book_2 rt xt (ku_A_book rt xt n) [(0, .inl (.ref 51)), (1, .inl (.int a_declaration)), (2, .inl (.int x2))] [] w 0 0
      generalize ku_A_book rt xt n = K at i_2 ⊢
      refine sf_iload rfl ?_
      refine sf_aload rfl ?_
      refine sf_getr I_w rfl rfl ?_
      refine sf_getr I_w rfl rfl ?_
      refine sf_iload rfl ?_
      refine sf_iald I_w rfl (by omega) (fun v1 lv1 uv1 ev1 => ?_)
      rw [sf_ma s_w (p := 38) rfl] at ev1
      refine sf_f2_ge (fun h2 => ?_) (fun h2 => ?_)
      · refine sf_aload rfl ?_
        refine sf_getr I_w rfl rfl ?_
        refine sf_iconst sf_c0 (fun z3 ez3 => ?_)
        refine sf_aload rfl ?_
        refine sf_getr I_w rfl rfl ?_
        refine sf_getr I_w rfl rfl ?_
        refine sf_iconst sf_c0 (fun z4 ez4 => ?_)
        refine sf_iconst sf_c8 (fun z5 ez5 => ?_)
        refine sf_cpy I_w s_w rfl rfl (by decide) (by omega) (by omega) (by omega) rfl rfl rfl (by decide) (fun w6 Iw6 sw6 kw6 uw6 => ?_)
        clear kw6 uw6
        refine sf_vreturn rfl rfl ?_
        exact hR _ Iw6 sw6 
      · refine sf_iload rfl ?_
        refine sf_iload rfl ?_
        refine sf_call2 rfl rfl rfl ?_
        refine sf_sp (L := [(0, .inl (.int a_declaration)), (1, .inl (.int x2))]) rfl rfl ?_
        refine sf_iload rfl ?_
        refine sf_iconst sf_c4 (fun z7 ez7 => ?_)
        refine sf_imulr (n := 4) (by omega) (by omega) (fun v8 ev8 => ?_)
        refine sf_iload rfl ?_
        refine sf_iadd (by omega) (fun v9 ev9 => ?_)
        refine sf_ireturn rfl rfl ?_
        refine sf_istore (L' := [(0, .inl (.ref 51)), (1, .inl (.int a_declaration)), (2, .inl (.int x2))]) rfl ?_
        refine sf_aload rfl ?_
        refine sf_getr I_w rfl rfl ?_
        refine sf_getr I_w rfl rfl ?_
        refine sf_iload rfl ?_
        refine sf_aload rfl ?_
        refine sf_getr I_w rfl rfl ?_
        refine sf_iload rfl ?_
        refine sf_iald I_w rfl (by omega) (fun v10 lv10 uv10 ev10 => ?_)
        clear ev10
        refine sf_iast I_w s_w rfl (by omega) (by omega) rfl rfl (fun w11 Iw11 sw11 kw11 uw11 => ?_)
        clear kw11 uw11
        refine sf_aload rfl ?_
        refine sf_getr Iw11 rfl rfl ?_
        refine sf_getr Iw11 rfl rfl ?_
        refine sf_iload rfl ?_
        refine sf_aload rfl ?_
        refine sf_getr Iw11 rfl rfl ?_
        refine sf_iload rfl ?_
        refine sf_iald Iw11 rfl (by omega) (fun v12 lv12 uv12 ev12 => ?_)
        clear lv12 uv12
        clear ev12
        refine sf_iast Iw11 sw11 rfl (by omega) (sf_bd _) rfl rfl (fun w13 Iw13 sw13 kw13 uw13 => ?_)
        clear kw13 uw13
        refine sf_aload rfl ?_
        refine sf_getr Iw13 rfl rfl ?_
        refine sf_getr Iw13 rfl rfl ?_
        refine sf_iload rfl ?_
        refine sf_aload rfl ?_
        refine sf_getr Iw13 rfl rfl ?_
        refine sf_iload rfl ?_
        refine sf_lald Iw13 rfl (by omega) (fun v14 ev14 => ?_)
        clear ev14
        refine sf_last Iw13 sw13 rfl (by omega) rfl rfl (fun w15 Iw15 sw15 kw15 uw15 => ?_)
        clear kw15 uw15
        refine sf_iinc (L' := [(3, .inl (.int v9)), (0, .inl (.ref 51)), (1, .inl (.int a_declaration))]) sf_c1 rfl rfl (by omega) (fun v16 ev16 => ?_)
        refine sf_can (L' := [(0, .inl (.ref 51)), (1, .inl (.int a_declaration)), (2, .inl (.int v16))]) rfl ?_
        exact i_2 w15 v16 Iw15 sw15 (by omega) (by omega) (by omega)
  have hl1 := hl 1000000000000
  have i_2 := hl1
  clear hl hl1
  refine sf_sp (L := [(0, .inl (.ref 51)), (1, .inl (.int a_declaration))]) rfl rfl ?_
  generalize ku_A_book rt xt 1000000000000 = K at i_2 ⊢
  refine sf_iconst sf_c0 (fun z17 ez17 => ?_)
  refine sf_istore (L' := [(0, .inl (.ref 51)), (1, .inl (.int a_declaration))]) rfl ?_
  refine sf_can (L' := [(0, .inl (.ref 51)), (1, .inl (.int a_declaration)), (2, .inl (.int z17))]) rfl ?_
  exact i_2 w0 z17 hI0 hs0 (by omega) (by omega) (by omega)
