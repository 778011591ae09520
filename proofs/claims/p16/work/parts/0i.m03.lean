def sm_M_isMade : List Nat := []
set_option maxRecDepth 100000 in
set_option maxHeartbeats 4000000 in
theorem sc_M_isMade {w0 : wq_W} (hI0 : sf_I w0) {rt : Option wq_V → wq_W → Prop} {xt : Nat → wq_W → Prop} {a_good : Int32} {a_lands : Int32} (p0 : 0 ≤ a_good.toInt) (p1 : a_good.toInt ≤ 15) (hR : ∀ (r : Int32), 0 ≤ r.toInt → r.toInt ≤ 1 → rt (some (.inl (.int r))) w0) : ks_M_isMade [.inl (.ref 71), .inl (.int a_good), .inl (.int a_lands)] w0 rt xt := by
  have hl : ∀ n : Nat, (∀ (x3 : Int32), ((-1) ≤ x3.toInt) → (x3.toInt ≤ 23) → (200 + x3.toInt < (n : Int)) → ku_M_isMade rt xt n 7 [(0, .inl (.ref 71)), (1, .inl (.int a_good)), (2, .inl (.int a_lands)), (3, .inl (.int x3))] [] w0 0 0) ∧ (∀ (x3 : Int32) (x4 : Int64) (x6 : Int64) (x8 : Int32) (x9 : Int32), (0 ≤ x3.toInt) → (x3.toInt ≤ 23) → (0 ≤ x8.toInt) → (x8.toInt ≤ 1) → (0 ≤ x9.toInt) → (x9.toInt ≤ 80) → (80 - x9.toInt < (n : Int)) → ku_M_isMade rt xt n 59 [(0, .inl (.ref 71)), (1, .inl (.int a_good)), (2, .inl (.int a_lands)), (3, .inl (.int x3)), (4, .inl (.long x4)), (6, .inl (.long x6)), (8, .inl (.int x8)), (9, .inl (.int x9))] [] w0 0 0) := by
    intro n
    induction n with
    | zero =>
      refine ⟨?_, ?_⟩
      · intros; omega
      · intros; omega
    | succ n ih =>
      obtain ⟨i_7, i_59⟩ := ih
      refine ⟨?_, ?_⟩
      · intro x3 l_x3 u_x3 hm
        show kh_M_isMade_7 rt xt (ku_M_isMade rt xt n) [(0, .inl (.ref 71)), (1, .inl (.int a_good)), (2, .inl (.int a_lands)), (3, .inl (.int x3))] [] w0 0 0
        generalize ku_M_isMade rt xt n = K at i_7 i_59 ⊢
        refine sf_iload rfl ?_
        refine sf_f1_lt (fun h1 => ?_) (fun h1 => ?_)
        · refine sf_iload rfl ?_
          refine sf_f1_lt (fun h2 => ?_) (fun h2 => absurd h2 (by omega))
          refine sf_iconst sf_c0 (fun z3 ez3 => ?_)
          refine sf_zreturn (by omega) rfl rfl ?_
          exact hR _ (by omega) (by omega) 
        · refine sf_aload rfl ?_
          refine sf_getr hI0 rfl rfl ?_
          refine sf_iload rfl ?_
          refine sf_iald hI0 rfl (by omega) (fun v4 lv4 uv4 ev4 => ?_)
          refine sf_f1_ge (fun h5 => ?_) (fun h5 => ?_)
          · refine sf_iload rfl ?_
            refine sf_f1_lt (fun h6 => absurd h6 (by omega)) (fun h6 => ?_)
            refine sf_aload rfl ?_
            refine sf_getr hI0 rfl rfl ?_
            refine sf_iload rfl ?_
            refine sf_iald hI0 rfl (by omega) (fun v7 lv7 uv7 ev7 => ?_)
            refine sf_f1_eq (fun h8 => ?_) (fun h8 => ?_)
            · refine sf_iconst sf_c0 (fun z9 ez9 => ?_)
              refine sf_zreturn (by omega) rfl rfl ?_
              exact hR _ (by omega) (by omega) 
            · refine sf_lconst (by decide : (0 : Int64).toInt = 0) (fun z10 ez10 => ?_)
              refine sf_lstore (L' := [(0, .inl (.ref 71)), (1, .inl (.int a_good)), (2, .inl (.int a_lands)), (3, .inl (.int x3))]) rfl ?_
              refine sf_lconst (by decide : (0 : Int64).toInt = 0) (fun z11 ez11 => ?_)
              refine sf_lstore (L' := [(4, .inl (.long z10)), (0, .inl (.ref 71)), (1, .inl (.int a_good)), (2, .inl (.int a_lands)), (3, .inl (.int x3))]) rfl ?_
              refine sf_iconst sf_c1 (fun z12 ez12 => ?_)
              refine sf_istore (L' := [(6, .inl (.long z11)), (4, .inl (.long z10)), (0, .inl (.ref 71)), (1, .inl (.int a_good)), (2, .inl (.int a_lands)), (3, .inl (.int x3))]) rfl ?_
              refine sf_iconst sf_c5 (fun z13 ez13 => ?_)
              refine sf_iload rfl ?_
              refine sf_imull (n := 5) (by omega) (by omega) (fun v14 ev14 => ?_)
              refine sf_istore (L' := [(8, .inl (.int z12)), (6, .inl (.long z11)), (4, .inl (.long z10)), (0, .inl (.ref 71)), (1, .inl (.int a_good)), (2, .inl (.int a_lands)), (3, .inl (.int x3))]) rfl ?_
              refine sf_can (L' := [(0, .inl (.ref 71)), (1, .inl (.int a_good)), (2, .inl (.int a_lands)), (3, .inl (.int x3)), (4, .inl (.long z10)), (6, .inl (.long z11)), (8, .inl (.int z12)), (9, .inl (.int v14))]) rfl ?_
              exact i_59 x3 z10 z11 z12 v14 (by omega) (by omega) (by omega) (by omega) (by omega) (by omega) (by omega)
          · refine sf_aload rfl ?_
            refine sf_getr hI0 rfl rfl ?_
            refine sf_iload rfl ?_
            refine sf_iald hI0 rfl (by omega) (fun v15 lv15 uv15 ev15 => ?_)
            have r1 := sf_R1q hI0 (i := x3) (by omega) (by omega)
            refine sf_istore (L' := [(0, .inl (.ref 71)), (1, .inl (.int a_good)), (2, .inl (.int a_lands))]) rfl ?_
            refine sf_can (L' := [(0, .inl (.ref 71)), (1, .inl (.int a_good)), (2, .inl (.int a_lands)), (3, .inl (.int v15))]) rfl ?_
            exact i_7 v15 (by omega) (by omega) (by omega)
      · intro x3 x4 x6 x8 x9 l_x3 u_x3 l_x8 u_x8 l_x9 u_x9 hm
        show kh_M_isMade_59 rt xt (ku_M_isMade rt xt n) [(0, .inl (.ref 71)), (1, .inl (.int a_good)), (2, .inl (.int a_lands)), (3, .inl (.int x3)), (4, .inl (.long x4)), (6, .inl (.long x6)), (8, .inl (.int x8)), (9, .inl (.int x9))] [] w0 0 0
        generalize ku_M_isMade rt xt n = K at i_7 i_59 ⊢
        refine sf_iload rfl ?_
        refine sf_iconst sf_c5 (fun z16 ez16 => ?_)
        refine sf_iload rfl ?_
        refine sf_imull (n := 5) (by omega) (by omega) (fun v17 ev17 => ?_)
        refine sf_aload rfl ?_
        refine sf_getr hI0 rfl rfl ?_
        refine sf_iload rfl ?_
        refine sf_iald hI0 rfl (by omega) (fun v18 lv18 uv18 ev18 => ?_)
        refine sf_iadd (by omega) (fun v19 ev19 => ?_)
        refine sf_f2_ge (fun h20 => ?_) (fun h20 => ?_)
        · refine sf_aload rfl ?_
          refine sf_getr hI0 rfl rfl ?_
          refine sf_iload rfl ?_
          refine sf_iald hI0 rfl (by omega) (fun v21 lv21 uv21 ev21 => ?_)
          refine sf_f1_eq (fun h22 => ?_) (fun h22 => ?_)
          · refine sf_iload rfl ?_
            refine sf_zreturn (by omega) rfl rfl ?_
            exact hR _ (by omega) (by omega) 
          · refine sf_lconst (by decide : (1000 : Int64).toInt = 1000) (fun z23 ez23 => ?_)
            refine sf_lload rfl ?_
            refine sf_l2 (fun v24 => ?_)
            refine sf_aload rfl ?_
            refine sf_getr hI0 rfl rfl ?_
            refine sf_iload rfl ?_
            refine sf_iald hI0 rfl (by omega) (fun v25 lv25 uv25 ev25 => ?_)
            clear lv25 uv25
            clear ev25
            refine sf_i2lb (fun v26 ev26 lv26 uv26 => ?_)
            refine sf_lload rfl ?_
            refine sf_l2 (fun v27 => ?_)
            refine sf_fl_gt (fun h28 => ?_) (fun h28 => ?_)
            · refine sf_iconst sf_c0 (fun z29 ez29 => ?_)
              refine sf_zreturn (by omega) rfl rfl ?_
              exact hR _ (by omega) (by omega) 
            · refine sf_iconst sf_c1 (fun z30 ez30 => ?_)
              refine sf_zreturn (by omega) rfl rfl ?_
              exact hR _ (by omega) (by omega) 
        · refine sf_aload rfl ?_
          refine sf_getr hI0 rfl rfl ?_
          refine sf_iload rfl ?_
          refine sf_iald hI0 rfl (by omega) (fun v31 lv31 uv31 ev31 => ?_)
          clear ev31
          refine sf_istore (L' := [(0, .inl (.ref 71)), (1, .inl (.int a_good)), (2, .inl (.int a_lands)), (3, .inl (.int x3)), (4, .inl (.long x4)), (6, .inl (.long x6)), (8, .inl (.int x8)), (9, .inl (.int x9))]) rfl ?_
          refine sf_iload rfl ?_
          refine sf_aload rfl ?_
          refine sf_getr hI0 rfl rfl ?_
          refine sf_iload rfl ?_
          refine sf_iald hI0 rfl (by omega) (fun v32 lv32 uv32 ev32 => ?_)
          clear lv32 uv32
          clear ev32
          refine sf_i2 (fun v33 => ?_)
          refine sf_iconst sf_c1 (fun z34 ez34 => ?_)
          refine sf_iand (n := 1) (by omega) (by decide) (fun v35 lv35 uv35 => ?_)
          refine sf_f1_eq (fun h36 => ?_) (fun h36 => ?_)
          · refine sf_iconst sf_c1 (fun z37 ez37 => ?_)
            refine sf_istore (L' := [(10, .inl (.int v31)), (0, .inl (.ref 71)), (1, .inl (.int a_good)), (2, .inl (.int a_lands)), (3, .inl (.int x3)), (4, .inl (.long x4)), (6, .inl (.long x6)), (8, .inl (.int x8)), (9, .inl (.int x9))]) rfl ?_
            refine sf_lload rfl ?_
            refine sf_aload rfl ?_
            refine sf_getr hI0 rfl rfl ?_
            refine sf_iload rfl ?_
            refine sf_iald hI0 rfl (by omega) (fun v38 lv38 uv38 ev38 => ?_)
            clear lv38 uv38
            clear ev38
            refine sf_i2lb (fun v39 ev39 lv39 uv39 => ?_)
            refine sf_l2 (fun v40 => ?_)
            refine sf_lstore (L' := [(11, .inl (.int z37)), (10, .inl (.int v31)), (0, .inl (.ref 71)), (1, .inl (.int a_good)), (2, .inl (.int a_lands)), (3, .inl (.int x3)), (4, .inl (.long x4)), (8, .inl (.int x8)), (9, .inl (.int x9))]) rfl ?_
            refine sf_iload rfl ?_
            refine sf_f1_eq (fun h41 => absurd h41 (by omega)) (fun h41 => ?_)
            refine sf_lload rfl ?_
            refine sf_aload rfl ?_
            refine sf_getr hI0 rfl rfl ?_
            refine sf_iload rfl ?_
            refine sf_iald hI0 rfl (by omega) (fun v42 lv42 uv42 ev42 => ?_)
            clear lv42 uv42
            clear ev42
            refine sf_i2lb (fun v43 ev43 lv43 uv43 => ?_)
            refine sf_l2 (fun v44 => ?_)
            refine sf_lstore (L' := [(6, .inl (.long v40)), (11, .inl (.int z37)), (10, .inl (.int v31)), (0, .inl (.ref 71)), (1, .inl (.int a_good)), (2, .inl (.int a_lands)), (3, .inl (.int x3)), (8, .inl (.int x8)), (9, .inl (.int x9))]) rfl ?_
            refine sf_iload rfl ?_
            refine sf_f1_eq (fun h45 => ?_) (fun h45 => ?_)
            · refine sf_iconst sf_c0 (fun z46 ez46 => ?_)
              refine sf_istore (L' := [(4, .inl (.long v44)), (6, .inl (.long v40)), (11, .inl (.int z37)), (10, .inl (.int v31)), (0, .inl (.ref 71)), (1, .inl (.int a_good)), (2, .inl (.int a_lands)), (3, .inl (.int x3)), (9, .inl (.int x9))]) rfl ?_
              refine sf_iinc (L' := [(8, .inl (.int z46)), (4, .inl (.long v44)), (6, .inl (.long v40)), (11, .inl (.int z37)), (10, .inl (.int v31)), (0, .inl (.ref 71)), (1, .inl (.int a_good)), (2, .inl (.int a_lands)), (3, .inl (.int x3))]) sf_c1 rfl rfl (by omega) (fun v47 ev47 => ?_)
              refine sf_can (L' := [(0, .inl (.ref 71)), (1, .inl (.int a_good)), (2, .inl (.int a_lands)), (3, .inl (.int x3)), (4, .inl (.long v44)), (6, .inl (.long v40)), (8, .inl (.int z46)), (9, .inl (.int v47))]) rfl ?_
              exact i_59 x3 v44 v40 z46 v47 (by omega) (by omega) (by omega) (by omega) (by omega) (by omega) (by omega)
            · refine sf_iload rfl ?_
              refine sf_f1_eq (fun h48 => absurd h48 (by omega)) (fun h48 => ?_)
              refine sf_aload rfl ?_
              refine sf_getr hI0 rfl rfl ?_
              refine sf_iload rfl ?_
              refine sf_iald hI0 rfl (by omega) (fun v49 lv49 uv49 ev49 => ?_)
              clear ev49
              refine sf_aload rfl ?_
              refine sf_getr hI0 rfl rfl ?_
              refine sf_iload rfl ?_
              refine sf_iald hI0 rfl (by omega) (fun v50 lv50 uv50 ev50 => ?_)
              clear ev50
              refine sf_f2_eq (fun h51 => ?_) (fun h51 => ?_)
              · refine sf_iconst sf_c0 (fun z52 ez52 => ?_)
                refine sf_istore (L' := [(4, .inl (.long v44)), (6, .inl (.long v40)), (11, .inl (.int z37)), (10, .inl (.int v31)), (0, .inl (.ref 71)), (1, .inl (.int a_good)), (2, .inl (.int a_lands)), (3, .inl (.int x3)), (9, .inl (.int x9))]) rfl ?_
                refine sf_iinc (L' := [(8, .inl (.int z52)), (4, .inl (.long v44)), (6, .inl (.long v40)), (11, .inl (.int z37)), (10, .inl (.int v31)), (0, .inl (.ref 71)), (1, .inl (.int a_good)), (2, .inl (.int a_lands)), (3, .inl (.int x3))]) sf_c1 rfl rfl (by omega) (fun v53 ev53 => ?_)
                refine sf_can (L' := [(0, .inl (.ref 71)), (1, .inl (.int a_good)), (2, .inl (.int a_lands)), (3, .inl (.int x3)), (4, .inl (.long v44)), (6, .inl (.long v40)), (8, .inl (.int z52)), (9, .inl (.int v53))]) rfl ?_
                exact i_59 x3 v44 v40 z52 v53 (by omega) (by omega) (by omega) (by omega) (by omega) (by omega) (by omega)
              · refine sf_iconst sf_c1 (fun z54 ez54 => ?_)
                refine sf_istore (L' := [(4, .inl (.long v44)), (6, .inl (.long v40)), (11, .inl (.int z37)), (10, .inl (.int v31)), (0, .inl (.ref 71)), (1, .inl (.int a_good)), (2, .inl (.int a_lands)), (3, .inl (.int x3)), (9, .inl (.int x9))]) rfl ?_
                refine sf_iinc (L' := [(8, .inl (.int z54)), (4, .inl (.long v44)), (6, .inl (.long v40)), (11, .inl (.int z37)), (10, .inl (.int v31)), (0, .inl (.ref 71)), (1, .inl (.int a_good)), (2, .inl (.int a_lands)), (3, .inl (.int x3))]) sf_c1 rfl rfl (by omega) (fun v55 ev55 => ?_)
                refine sf_can (L' := [(0, .inl (.ref 71)), (1, .inl (.int a_good)), (2, .inl (.int a_lands)), (3, .inl (.int x3)), (4, .inl (.long v44)), (6, .inl (.long v40)), (8, .inl (.int z54)), (9, .inl (.int v55))]) rfl ?_
                exact i_59 x3 v44 v40 z54 v55 (by omega) (by omega) (by omega) (by omega) (by omega) (by omega) (by omega)
          · refine sf_aload rfl ?_
            refine sf_getr hI0 rfl rfl ?_
            refine sf_iload rfl ?_
            refine sf_iald hI0 rfl (by omega) (fun v56 lv56 uv56 ev56 => ?_)
            refine sf_f1_le (fun h57 => ?_) (fun h57 => ?_)
            · refine sf_iconst sf_c0 (fun z58 ez58 => ?_)
              refine sf_istore (L' := [(10, .inl (.int v31)), (0, .inl (.ref 71)), (1, .inl (.int a_good)), (2, .inl (.int a_lands)), (3, .inl (.int x3)), (4, .inl (.long x4)), (6, .inl (.long x6)), (8, .inl (.int x8)), (9, .inl (.int x9))]) rfl ?_
              refine sf_lload rfl ?_
              refine sf_aload rfl ?_
              refine sf_getr hI0 rfl rfl ?_
              refine sf_iload rfl ?_
              refine sf_iald hI0 rfl (by omega) (fun v59 lv59 uv59 ev59 => ?_)
              clear lv59 uv59
              clear ev59
              refine sf_i2lb (fun v60 ev60 lv60 uv60 => ?_)
              refine sf_l2 (fun v61 => ?_)
              refine sf_lstore (L' := [(11, .inl (.int z58)), (10, .inl (.int v31)), (0, .inl (.ref 71)), (1, .inl (.int a_good)), (2, .inl (.int a_lands)), (3, .inl (.int x3)), (4, .inl (.long x4)), (8, .inl (.int x8)), (9, .inl (.int x9))]) rfl ?_
              refine sf_iload rfl ?_
              refine sf_f1_eq (fun h62 => ?_) (fun h62 => absurd h62 (by omega))
              refine sf_lload rfl ?_
              refine sf_lstore (L' := [(6, .inl (.long v61)), (11, .inl (.int z58)), (10, .inl (.int v31)), (0, .inl (.ref 71)), (1, .inl (.int a_good)), (2, .inl (.int a_lands)), (3, .inl (.int x3)), (8, .inl (.int x8)), (9, .inl (.int x9))]) rfl ?_
              refine sf_iload rfl ?_
              refine sf_f1_eq (fun h63 => ?_) (fun h63 => ?_)
              · refine sf_iconst sf_c0 (fun z64 ez64 => ?_)
                refine sf_istore (L' := [(4, .inl (.long x4)), (6, .inl (.long v61)), (11, .inl (.int z58)), (10, .inl (.int v31)), (0, .inl (.ref 71)), (1, .inl (.int a_good)), (2, .inl (.int a_lands)), (3, .inl (.int x3)), (9, .inl (.int x9))]) rfl ?_
                refine sf_iinc (L' := [(8, .inl (.int z64)), (4, .inl (.long x4)), (6, .inl (.long v61)), (11, .inl (.int z58)), (10, .inl (.int v31)), (0, .inl (.ref 71)), (1, .inl (.int a_good)), (2, .inl (.int a_lands)), (3, .inl (.int x3))]) sf_c1 rfl rfl (by omega) (fun v65 ev65 => ?_)
                refine sf_can (L' := [(0, .inl (.ref 71)), (1, .inl (.int a_good)), (2, .inl (.int a_lands)), (3, .inl (.int x3)), (4, .inl (.long x4)), (6, .inl (.long v61)), (8, .inl (.int z64)), (9, .inl (.int v65))]) rfl ?_
                exact i_59 x3 x4 v61 z64 v65 (by omega) (by omega) (by omega) (by omega) (by omega) (by omega) (by omega)
              · refine sf_iload rfl ?_
                refine sf_f1_eq (fun h66 => ?_) (fun h66 => absurd h66 (by omega))
                refine sf_iconst sf_c1 (fun z67 ez67 => ?_)
                refine sf_istore (L' := [(4, .inl (.long x4)), (6, .inl (.long v61)), (11, .inl (.int z58)), (10, .inl (.int v31)), (0, .inl (.ref 71)), (1, .inl (.int a_good)), (2, .inl (.int a_lands)), (3, .inl (.int x3)), (9, .inl (.int x9))]) rfl ?_
                refine sf_iinc (L' := [(8, .inl (.int z67)), (4, .inl (.long x4)), (6, .inl (.long v61)), (11, .inl (.int z58)), (10, .inl (.int v31)), (0, .inl (.ref 71)), (1, .inl (.int a_good)), (2, .inl (.int a_lands)), (3, .inl (.int x3))]) sf_c1 rfl rfl (by omega) (fun v68 ev68 => ?_)
                refine sf_can (L' := [(0, .inl (.ref 71)), (1, .inl (.int a_good)), (2, .inl (.int a_lands)), (3, .inl (.int x3)), (4, .inl (.long x4)), (6, .inl (.long v61)), (8, .inl (.int z67)), (9, .inl (.int v68))]) rfl ?_
                exact i_59 x3 x4 v61 z67 v68 (by omega) (by omega) (by omega) (by omega) (by omega) (by omega) (by omega)
            · refine sf_aload rfl ?_
              refine sf_getr hI0 rfl rfl ?_
              refine sf_iload rfl ?_
              refine sf_zald hI0 rfl (by omega) (fun v69 lv69 uv69 ev69 => ?_)
              clear ev69
              refine sf_f1_eq (fun h70 => ?_) (fun h70 => ?_)
              · refine sf_iconst sf_c1 (fun z71 ez71 => ?_)
                refine sf_istore (L' := [(10, .inl (.int v31)), (0, .inl (.ref 71)), (1, .inl (.int a_good)), (2, .inl (.int a_lands)), (3, .inl (.int x3)), (4, .inl (.long x4)), (6, .inl (.long x6)), (8, .inl (.int x8)), (9, .inl (.int x9))]) rfl ?_
                refine sf_lload rfl ?_
                refine sf_aload rfl ?_
                refine sf_getr hI0 rfl rfl ?_
                refine sf_iload rfl ?_
                refine sf_iald hI0 rfl (by omega) (fun v72 lv72 uv72 ev72 => ?_)
                clear lv72 uv72
                clear ev72
                refine sf_i2lb (fun v73 ev73 lv73 uv73 => ?_)
                refine sf_l2 (fun v74 => ?_)
                refine sf_lstore (L' := [(11, .inl (.int z71)), (10, .inl (.int v31)), (0, .inl (.ref 71)), (1, .inl (.int a_good)), (2, .inl (.int a_lands)), (3, .inl (.int x3)), (4, .inl (.long x4)), (8, .inl (.int x8)), (9, .inl (.int x9))]) rfl ?_
                refine sf_iload rfl ?_
                refine sf_f1_eq (fun h75 => absurd h75 (by omega)) (fun h75 => ?_)
                refine sf_lload rfl ?_
                refine sf_aload rfl ?_
                refine sf_getr hI0 rfl rfl ?_
                refine sf_iload rfl ?_
                refine sf_iald hI0 rfl (by omega) (fun v76 lv76 uv76 ev76 => ?_)
                clear lv76 uv76
                clear ev76
                refine sf_i2lb (fun v77 ev77 lv77 uv77 => ?_)
                refine sf_l2 (fun v78 => ?_)
                refine sf_lstore (L' := [(6, .inl (.long v74)), (11, .inl (.int z71)), (10, .inl (.int v31)), (0, .inl (.ref 71)), (1, .inl (.int a_good)), (2, .inl (.int a_lands)), (3, .inl (.int x3)), (8, .inl (.int x8)), (9, .inl (.int x9))]) rfl ?_
                refine sf_iload rfl ?_
                refine sf_f1_eq (fun h79 => ?_) (fun h79 => ?_)
                · refine sf_iconst sf_c0 (fun z80 ez80 => ?_)
                  refine sf_istore (L' := [(4, .inl (.long v78)), (6, .inl (.long v74)), (11, .inl (.int z71)), (10, .inl (.int v31)), (0, .inl (.ref 71)), (1, .inl (.int a_good)), (2, .inl (.int a_lands)), (3, .inl (.int x3)), (9, .inl (.int x9))]) rfl ?_
                  refine sf_iinc (L' := [(8, .inl (.int z80)), (4, .inl (.long v78)), (6, .inl (.long v74)), (11, .inl (.int z71)), (10, .inl (.int v31)), (0, .inl (.ref 71)), (1, .inl (.int a_good)), (2, .inl (.int a_lands)), (3, .inl (.int x3))]) sf_c1 rfl rfl (by omega) (fun v81 ev81 => ?_)
                  refine sf_can (L' := [(0, .inl (.ref 71)), (1, .inl (.int a_good)), (2, .inl (.int a_lands)), (3, .inl (.int x3)), (4, .inl (.long v78)), (6, .inl (.long v74)), (8, .inl (.int z80)), (9, .inl (.int v81))]) rfl ?_
                  exact i_59 x3 v78 v74 z80 v81 (by omega) (by omega) (by omega) (by omega) (by omega) (by omega) (by omega)
                · refine sf_iload rfl ?_
                  refine sf_f1_eq (fun h82 => absurd h82 (by omega)) (fun h82 => ?_)
                  refine sf_aload rfl ?_
                  refine sf_getr hI0 rfl rfl ?_
                  refine sf_iload rfl ?_
                  refine sf_iald hI0 rfl (by omega) (fun v83 lv83 uv83 ev83 => ?_)
                  clear ev83
                  refine sf_aload rfl ?_
                  refine sf_getr hI0 rfl rfl ?_
                  refine sf_iload rfl ?_
                  refine sf_iald hI0 rfl (by omega) (fun v84 lv84 uv84 ev84 => ?_)
                  clear ev84
                  refine sf_f2_eq (fun h85 => ?_) (fun h85 => ?_)
                  · refine sf_iconst sf_c0 (fun z86 ez86 => ?_)
                    refine sf_istore (L' := [(4, .inl (.long v78)), (6, .inl (.long v74)), (11, .inl (.int z71)), (10, .inl (.int v31)), (0, .inl (.ref 71)), (1, .inl (.int a_good)), (2, .inl (.int a_lands)), (3, .inl (.int x3)), (9, .inl (.int x9))]) rfl ?_
                    refine sf_iinc (L' := [(8, .inl (.int z86)), (4, .inl (.long v78)), (6, .inl (.long v74)), (11, .inl (.int z71)), (10, .inl (.int v31)), (0, .inl (.ref 71)), (1, .inl (.int a_good)), (2, .inl (.int a_lands)), (3, .inl (.int x3))]) sf_c1 rfl rfl (by omega) (fun v87 ev87 => ?_)
                    refine sf_can (L' := [(0, .inl (.ref 71)), (1, .inl (.int a_good)), (2, .inl (.int a_lands)), (3, .inl (.int x3)), (4, .inl (.long v78)), (6, .inl (.long v74)), (8, .inl (.int z86)), (9, .inl (.int v87))]) rfl ?_
                    exact i_59 x3 v78 v74 z86 v87 (by omega) (by omega) (by omega) (by omega) (by omega) (by omega) (by omega)
                  · refine sf_iconst sf_c1 (fun z88 ez88 => ?_)
                    refine sf_istore (L' := [(4, .inl (.long v78)), (6, .inl (.long v74)), (11, .inl (.int z71)), (10, .inl (.int v31)), (0, .inl (.ref 71)), (1, .inl (.int a_good)), (2, .inl (.int a_lands)), (3, .inl (.int x3)), (9, .inl (.int x9))]) rfl ?_
                    refine sf_iinc (L' := [(8, .inl (.int z88)), (4, .inl (.long v78)), (6, .inl (.long v74)), (11, .inl (.int z71)), (10, .inl (.int v31)), (0, .inl (.ref 71)), (1, .inl (.int a_good)), (2, .inl (.int a_lands)), (3, .inl (.int x3))]) sf_c1 rfl rfl (by omega) (fun v89 ev89 => ?_)
                    refine sf_can (L' := [(0, .inl (.ref 71)), (1, .inl (.int a_good)), (2, .inl (.int a_lands)), (3, .inl (.int x3)), (4, .inl (.long v78)), (6, .inl (.long v74)), (8, .inl (.int z88)), (9, .inl (.int v89))]) rfl ?_
                    exact i_59 x3 v78 v74 z88 v89 (by omega) (by omega) (by omega) (by omega) (by omega) (by omega) (by omega)
              · refine sf_iconst sf_c0 (fun z90 ez90 => ?_)
                refine sf_istore (L' := [(10, .inl (.int v31)), (0, .inl (.ref 71)), (1, .inl (.int a_good)), (2, .inl (.int a_lands)), (3, .inl (.int x3)), (4, .inl (.long x4)), (6, .inl (.long x6)), (8, .inl (.int x8)), (9, .inl (.int x9))]) rfl ?_
                refine sf_lload rfl ?_
                refine sf_aload rfl ?_
                refine sf_getr hI0 rfl rfl ?_
                refine sf_iload rfl ?_
                refine sf_iald hI0 rfl (by omega) (fun v91 lv91 uv91 ev91 => ?_)
                clear lv91 uv91
                clear ev91
                refine sf_i2lb (fun v92 ev92 lv92 uv92 => ?_)
                refine sf_l2 (fun v93 => ?_)
                refine sf_lstore (L' := [(11, .inl (.int z90)), (10, .inl (.int v31)), (0, .inl (.ref 71)), (1, .inl (.int a_good)), (2, .inl (.int a_lands)), (3, .inl (.int x3)), (4, .inl (.long x4)), (8, .inl (.int x8)), (9, .inl (.int x9))]) rfl ?_
                refine sf_iload rfl ?_
                refine sf_f1_eq (fun h94 => ?_) (fun h94 => absurd h94 (by omega))
                refine sf_lload rfl ?_
                refine sf_lstore (L' := [(6, .inl (.long v93)), (11, .inl (.int z90)), (10, .inl (.int v31)), (0, .inl (.ref 71)), (1, .inl (.int a_good)), (2, .inl (.int a_lands)), (3, .inl (.int x3)), (8, .inl (.int x8)), (9, .inl (.int x9))]) rfl ?_
                refine sf_iload rfl ?_
                refine sf_f1_eq (fun h95 => ?_) (fun h95 => ?_)
                · refine sf_iconst sf_c0 (fun z96 ez96 => ?_)
                  refine sf_istore (L' := [(4, .inl (.long x4)), (6, .inl (.long v93)), (11, .inl (.int z90)), (10, .inl (.int v31)), (0, .inl (.ref 71)), (1, .inl (.int a_good)), (2, .inl (.int a_lands)), (3, .inl (.int x3)), (9, .inl (.int x9))]) rfl ?_
                  refine sf_iinc (L' := [(8, .inl (.int z96)), (4, .inl (.long x4)), (6, .inl (.long v93)), (11, .inl (.int z90)), (10, .inl (.int v31)), (0, .inl (.ref 71)), (1, .inl (.int a_good)), (2, .inl (.int a_lands)), (3, .inl (.int x3))]) sf_c1 rfl rfl (by omega) (fun v97 ev97 => ?_)
                  refine sf_can (L' := [(0, .inl (.ref 71)), (1, .inl (.int a_good)), (2, .inl (.int a_lands)), (3, .inl (.int x3)), (4, .inl (.long x4)), (6, .inl (.long v93)), (8, .inl (.int z96)), (9, .inl (.int v97))]) rfl ?_
                  exact i_59 x3 x4 v93 z96 v97 (by omega) (by omega) (by omega) (by omega) (by omega) (by omega) (by omega)
                · refine sf_iload rfl ?_
                  refine sf_f1_eq (fun h98 => ?_) (fun h98 => absurd h98 (by omega))
                  refine sf_iconst sf_c1 (fun z99 ez99 => ?_)
                  refine sf_istore (L' := [(4, .inl (.long x4)), (6, .inl (.long v93)), (11, .inl (.int z90)), (10, .inl (.int v31)), (0, .inl (.ref 71)), (1, .inl (.int a_good)), (2, .inl (.int a_lands)), (3, .inl (.int x3)), (9, .inl (.int x9))]) rfl ?_
                  refine sf_iinc (L' := [(8, .inl (.int z99)), (4, .inl (.long x4)), (6, .inl (.long v93)), (11, .inl (.int z90)), (10, .inl (.int v31)), (0, .inl (.ref 71)), (1, .inl (.int a_good)), (2, .inl (.int a_lands)), (3, .inl (.int x3))]) sf_c1 rfl rfl (by omega) (fun v100 ev100 => ?_)
                  refine sf_can (L' := [(0, .inl (.ref 71)), (1, .inl (.int a_good)), (2, .inl (.int a_lands)), (3, .inl (.int x3)), (4, .inl (.long x4)), (6, .inl (.long v93)), (8, .inl (.int z99)), (9, .inl (.int v100))]) rfl ?_
                  exact i_59 x3 x4 v93 z99 v100 (by omega) (by omega) (by omega) (by omega) (by omega) (by omega) (by omega)
  have hl1 := hl 1000000000000
  obtain ⟨i_7, i_59⟩ := hl1
  clear hl
  refine sf_sp (L := [(0, .inl (.ref 71)), (1, .inl (.int a_good)), (2, .inl (.int a_lands))]) rfl rfl ?_
  generalize ku_M_isMade rt xt 1000000000000 = K at i_7 i_59 ⊢
  refine sf_aload rfl ?_
  refine sf_getr hI0 rfl rfl ?_
  refine sf_iload rfl ?_
  refine sf_iald hI0 rfl (by omega) (fun v101 lv101 uv101 ev101 => ?_)
  clear ev101
  refine sf_istore (L' := [(0, .inl (.ref 71)), (1, .inl (.int a_good)), (2, .inl (.int a_lands))]) rfl ?_
  refine sf_can (L' := [(0, .inl (.ref 71)), (1, .inl (.int a_good)), (2, .inl (.int a_lands)), (3, .inl (.int v101))]) rfl ?_
  exact i_7 v101 (by omega) (by omega) (by omega)
def sm_M_spread : List Nat := [111, 112]
set_option maxRecDepth 100000 in
set_option maxHeartbeats 4000000 in
theorem sc_M_spread {w0 : wq_W} (hI0 : sf_I w0) {rt : Option wq_V → wq_W → Prop} {xt : Nat → wq_W → Prop} {a_d : Int32} {a_by : Int32} (p0 : 0 ≤ a_d.toInt) (p1 : a_d.toInt ≤ 11) (p2 : 0 ≤ a_by.toInt) (p3 : a_by.toInt ≤ 1) (p4 : 0 < (sf_a w0 104 a_d.toInt.toNat).toInt) (hR : ∀ (w : wq_W), sf_I w → sf_m sm_M_spread w0 w → rt none w) : ks_M_spread [.inl (.ref 71), .inl (.int a_d), .inl (.int a_by)] w0 rt xt := by
  have hs0 : sf_m sm_M_spread w0 w0 := sf_m0
  have hl : ∀ n : Nat, (∀ (w : wq_W) (x3 : Int64) (x5 : Int32), (sf_I w) → (sf_m sm_M_spread w0 w) → (0 ≤ x5.toInt) → (x5.toInt ≤ 4) → (40000000000 - x5.toInt < (n : Int)) → ku_M_spread rt xt n 5 [(0, .inl (.ref 71)), (1, .inl (.int a_d)), (2, .inl (.int a_by)), (3, .inl (.long x3)), (5, .inl (.int x5))] [] w 0 0) ∧ (∀ (w : wq_W) (x3 : Int64) (x5 : Int32) (x6 : Int32) (x7 : Int32), (sf_I w) → (sf_m sm_M_spread w0 w) → (0 ≤ x5.toInt) → (x5.toInt ≤ 1) → (0 ≤ x7.toInt) → (x7.toInt ≤ 4) → (x3.toInt ≠ 0) → (30000000000 - x7.toInt < (n : Int)) → ku_M_spread rt xt n 88 [(0, .inl (.ref 71)), (1, .inl (.int a_d)), (2, .inl (.int a_by)), (3, .inl (.long x3)), (5, .inl (.int x5)), (6, .inl (.int x6)), (7, .inl (.int x7))] [] w 0 0) ∧ (∀ (w : wq_W) (x6 : Int32), (sf_I w) → (sf_m sm_M_spread w0 w) → (10 * (x6.toInt.toNat : Int) + 9 < (n : Int)) → ku_M_spread rt xt n 194 [(0, .inl (.ref 71)), (1, .inl (.int a_d)), (6, .inl (.int x6))] [] w 0 0) ∧ (∀ (w : wq_W) (x6 : Int32) (x7 : Int32) (x8 : Int32), (sf_I w) → (sf_m sm_M_spread w0 w) → (1 ≤ x6.toInt) → (x6.toInt ≤ 2147483647) → (0 ≤ x7.toInt) → (x7.toInt ≤ 3) → (0 ≤ x8.toInt) → (x8.toInt ≤ 4) → (10 * x6.toInt + 4 - x8.toInt < (n : Int)) → ku_M_spread rt xt n 205 [(0, .inl (.ref 71)), (1, .inl (.int a_d)), (6, .inl (.int x6)), (7, .inl (.int x7)), (8, .inl (.int x8))] [] w 0 0) := by
    intro n
    induction n with
    | zero =>
      refine ⟨?_, ?_, ?_, ?_⟩
      · intros; omega
      · intros; omega
      · intros; omega
      · intros; omega
    | succ n ih =>
      obtain ⟨i_5, i_88, i_194, i_205⟩ := ih
      refine ⟨?_, ?_, ?_, ?_⟩
      · intro w x3 x5 I_w s_w l_x5 u_x5 hm
        show kh_M_spread_5 rt xt (ku_M_spread rt xt n) [(0, .inl (.ref 71)), (1, .inl (.int a_d)), (2, .inl (.int a_by)), (3, .inl (.long x3)), (5, .inl (.int x5))] [] w 0 0
        generalize ku_M_spread rt xt n = K at i_5 i_88 i_194 i_205 ⊢
        refine sf_iload rfl ?_
        refine sf_aload rfl ?_
        refine sf_getr I_w rfl rfl ?_
        refine sf_iload rfl ?_
        refine sf_iald I_w rfl (by omega) (fun v1 lv1 uv1 ev1 => ?_)
        rw [sf_ma s_w (p := 104) rfl] at ev1
        refine sf_f2_ge (fun h2 => ?_) (fun h2 => ?_)
        · refine sf_lload rfl ?_
          refine sf_lconst (by decide : (0 : Int64).toInt = 0) (fun z3 ez3 => ?_)
          refine sf_fl_eq (fun h4 => ?_) (fun h4 => ?_)
          · refine sf_iconst sf_c1 (fun z5 ez5 => ?_)
            refine sf_istore (L' := [(0, .inl (.ref 71)), (1, .inl (.int a_d)), (2, .inl (.int a_by)), (3, .inl (.long x3))]) rfl ?_
            refine sf_iload rfl ?_
            refine sf_f1_eq (fun h6 => absurd h6 (by omega)) (fun h6 => ?_)
            refine sf_aload rfl ?_
            refine sf_getr I_w rfl rfl ?_
            refine sf_iload rfl ?_
            refine sf_iald I_w rfl (by omega) (fun v7 lv7 uv7 ev7 => ?_)
            rw [sf_ma s_w (p := 104) rfl] at ev7
            refine sf_i2l (fun v8 ev8 => ?_)
            refine sf_lstore (L' := [(5, .inl (.int z5)), (0, .inl (.ref 71)), (1, .inl (.int a_d)), (2, .inl (.int a_by))]) rfl ?_
            refine sf_aload rfl ?_
            refine sf_getr I_w rfl rfl ?_
            refine sf_iconst sf_c2 (fun z9 ez9 => ?_)
            refine sf_iload rfl ?_
            refine sf_imull (n := 2) (by omega) (by omega) (fun v10 ev10 => ?_)
            refine sf_iload rfl ?_
            refine sf_iadd (by omega) (fun v11 ev11 => ?_)
            refine sf_iald I_w rfl (by omega) (fun v12 lv12 uv12 ev12 => ?_)
            clear lv12 uv12
            clear ev12
            refine sf_istore (L' := [(3, .inl (.long v8)), (5, .inl (.int z5)), (0, .inl (.ref 71)), (1, .inl (.int a_d)), (2, .inl (.int a_by))]) rfl ?_
            refine sf_iconst sf_c0 (fun z13 ez13 => ?_)
            refine sf_istore (L' := [(6, .inl (.int v12)), (3, .inl (.long v8)), (5, .inl (.int z5)), (0, .inl (.ref 71)), (1, .inl (.int a_d)), (2, .inl (.int a_by))]) rfl ?_
            refine sf_can (L' := [(0, .inl (.ref 71)), (1, .inl (.int a_d)), (2, .inl (.int a_by)), (3, .inl (.long v8)), (5, .inl (.int z5)), (6, .inl (.int v12)), (7, .inl (.int z13))]) rfl ?_
            exact i_88 w v8 z5 v12 z13 I_w s_w (by omega) (by omega) (by omega) (by omega) (by omega) (by omega)
          · refine sf_iconst sf_c0 (fun z14 ez14 => ?_)
            refine sf_istore (L' := [(0, .inl (.ref 71)), (1, .inl (.int a_d)), (2, .inl (.int a_by)), (3, .inl (.long x3))]) rfl ?_
            refine sf_iload rfl ?_
            refine sf_f1_eq (fun h15 => ?_) (fun h15 => absurd h15 (by omega))
            refine sf_lload rfl ?_
            refine sf_lstore (L' := [(5, .inl (.int z14)), (0, .inl (.ref 71)), (1, .inl (.int a_d)), (2, .inl (.int a_by))]) rfl ?_
            refine sf_aload rfl ?_
            refine sf_getr I_w rfl rfl ?_
            refine sf_iconst sf_c2 (fun z16 ez16 => ?_)
            refine sf_iload rfl ?_
            refine sf_imull (n := 2) (by omega) (by omega) (fun v17 ev17 => ?_)
            refine sf_iload rfl ?_
            refine sf_iadd (by omega) (fun v18 ev18 => ?_)
            refine sf_iald I_w rfl (by omega) (fun v19 lv19 uv19 ev19 => ?_)
            clear lv19 uv19
            clear ev19
            refine sf_istore (L' := [(3, .inl (.long x3)), (5, .inl (.int z14)), (0, .inl (.ref 71)), (1, .inl (.int a_d)), (2, .inl (.int a_by))]) rfl ?_
            refine sf_iconst sf_c0 (fun z20 ez20 => ?_)
            refine sf_istore (L' := [(6, .inl (.int v19)), (3, .inl (.long x3)), (5, .inl (.int z14)), (0, .inl (.ref 71)), (1, .inl (.int a_d)), (2, .inl (.int a_by))]) rfl ?_
            refine sf_can (L' := [(0, .inl (.ref 71)), (1, .inl (.int a_d)), (2, .inl (.int a_by)), (3, .inl (.long x3)), (5, .inl (.int z14)), (6, .inl (.int v19)), (7, .inl (.int z20))]) rfl ?_
            exact i_88 w x3 z14 v19 z20 I_w s_w (by omega) (by omega) (by omega) (by omega) (by omega) (by omega)
        · refine sf_lload rfl ?_
          refine sf_aload rfl ?_
          refine sf_getr I_w rfl rfl ?_
          refine sf_iconst sf_c3 (fun z21 ez21 => ?_)
          refine sf_iconst sf_c4 (fun z22 ez22 => ?_)
          refine sf_iload rfl ?_
          refine sf_imull (n := 4) (by omega) (by omega) (fun v23 ev23 => ?_)
          refine sf_iload rfl ?_
          refine sf_iadd (by omega) (fun v24 ev24 => ?_)
          refine sf_imull (n := 3) (by omega) (by omega) (fun v25 ev25 => ?_)
          refine sf_iconst sf_c1 (fun z26 ez26 => ?_)
          refine sf_iadd (by omega) (fun v27 ev27 => ?_)
          refine sf_iload rfl ?_
          refine sf_iadd (by omega) (fun v28 ev28 => ?_)
          refine sf_iald I_w rfl (by omega) (fun v29 lv29 uv29 ev29 => ?_)
          rw [sf_ma s_w (p := 110) rfl] at ev29
          refine sf_i2lb (fun v30 ev30 lv30 uv30 => ?_)
          refine sf_l2 (fun v31 => ?_)
          refine sf_lstore (L' := [(0, .inl (.ref 71)), (1, .inl (.int a_d)), (2, .inl (.int a_by)), (5, .inl (.int x5))]) rfl ?_
          refine sf_iinc (L' := [(3, .inl (.long v31)), (0, .inl (.ref 71)), (1, .inl (.int a_d)), (2, .inl (.int a_by))]) sf_c1 rfl rfl (by omega) (fun v32 ev32 => ?_)
          refine sf_can (L' := [(0, .inl (.ref 71)), (1, .inl (.int a_d)), (2, .inl (.int a_by)), (3, .inl (.long v31)), (5, .inl (.int v32))]) rfl ?_
          exact i_5 w v31 v32 I_w s_w (by omega) (by omega) (by omega)
      · intro w x3 x5 x6 x7 I_w s_w l_x5 u_x5 l_x7 u_x7 f_0 hm
        show kh_M_spread_88 rt xt (ku_M_spread rt xt n) [(0, .inl (.ref 71)), (1, .inl (.int a_d)), (2, .inl (.int a_by)), (3, .inl (.long x3)), (5, .inl (.int x5)), (6, .inl (.int x6)), (7, .inl (.int x7))] [] w 0 0
        generalize ku_M_spread rt xt n = K at i_5 i_88 i_194 i_205 ⊢
        have b6 := sf_bd x6
        refine sf_iload rfl ?_
        refine sf_aload rfl ?_
        refine sf_getr I_w rfl rfl ?_
        refine sf_iload rfl ?_
        refine sf_iald I_w rfl (by omega) (fun v33 lv33 uv33 ev33 => ?_)
        rw [sf_ma s_w (p := 104) rfl] at ev33
        refine sf_f2_ge (fun h34 => ?_) (fun h34 => ?_)
        · refine sf_can (L' := [(0, .inl (.ref 71)), (1, .inl (.int a_d)), (6, .inl (.int x6))]) rfl ?_
          exact i_194 w x6 I_w s_w (by omega)
        · refine sf_aload rfl ?_
          refine sf_getr I_w rfl rfl ?_
          refine sf_iconst sf_c2 (fun z35 ez35 => ?_)
          refine sf_iload rfl ?_
          refine sf_imull (n := 2) (by omega) (by omega) (fun v36 ev36 => ?_)
          refine sf_iload rfl ?_
          refine sf_iadd (by omega) (fun v37 ev37 => ?_)
          refine sf_iald I_w rfl (by omega) (fun v38 lv38 uv38 ev38 => ?_)
          clear lv38 uv38
          clear ev38
          refine sf_i2lb (fun v39 ev39 lv39 uv39 => ?_)
          refine sf_iload rfl ?_
          refine sf_f1_eq (fun h40 => ?_) (fun h40 => ?_)
          · refine sf_aload rfl ?_
            refine sf_getr I_w rfl rfl ?_
            refine sf_iconst sf_c3 (fun z41 ez41 => ?_)
            refine sf_iconst sf_c4 (fun z42 ez42 => ?_)
            refine sf_iload rfl ?_
            refine sf_imull (n := 4) (by omega) (by omega) (fun v43 ev43 => ?_)
            refine sf_iload rfl ?_
            refine sf_iadd (by omega) (fun v44 ev44 => ?_)
            refine sf_imull (n := 3) (by omega) (by omega) (fun v45 ev45 => ?_)
            refine sf_iconst sf_c1 (fun z46 ez46 => ?_)
            refine sf_iadd (by omega) (fun v47 ev47 => ?_)
            refine sf_iload rfl ?_
            refine sf_iadd (by omega) (fun v48 ev48 => ?_)
            refine sf_iald I_w rfl (by omega) (fun v49 lv49 uv49 ev49 => ?_)
            rw [sf_ma s_w (p := 110) rfl] at ev49
            refine sf_i2lb (fun v50 ev50 lv50 uv50 => ?_)
            refine sf_l2 (fun v51 => ?_)
            refine sf_lstore (L' := [(0, .inl (.ref 71)), (1, .inl (.int a_d)), (2, .inl (.int a_by)), (3, .inl (.long x3)), (5, .inl (.int x5)), (6, .inl (.int x6)), (7, .inl (.int x7))]) rfl ?_
            refine sf_aload rfl ?_
            refine sf_getr I_w rfl rfl ?_
            refine sf_iconst sf_c4 (fun z52 ez52 => ?_)
            refine sf_iload rfl ?_
            refine sf_imull (n := 4) (by omega) (by omega) (fun v53 ev53 => ?_)
            refine sf_iload rfl ?_
            refine sf_iadd (by omega) (fun v54 ev54 => ?_)
            refine sf_aload rfl ?_
            refine sf_getr I_w rfl rfl ?_
            refine sf_iconst sf_c4 (fun z55 ez55 => ?_)
            refine sf_iload rfl ?_
            refine sf_imull (n := 4) (by omega) (by omega) (fun v56 ev56 => ?_)
            refine sf_iload rfl ?_
            refine sf_iadd (by omega) (fun v57 ev57 => ?_)
            refine sf_lald I_w rfl (by omega) (fun v58 ev58 => ?_)
            clear ev58
            refine sf_lload rfl ?_
            refine sf_lload rfl ?_
            refine sf_l2d (by omega) (fun v59 => ?_)
            refine sf_l2 (fun v60 => ?_)
            refine sf_last I_w s_w rfl (by omega) rfl rfl (fun w61 Iw61 sw61 kw61 uw61 => ?_)
            clear kw61 uw61
            refine sf_aload rfl ?_
            refine sf_getr Iw61 rfl rfl ?_
            refine sf_iload rfl ?_
            refine sf_lload rfl ?_
            refine sf_lload rfl ?_
            refine sf_l2d (by omega) (fun v62 => ?_)
            refine sf_last Iw61 sw61 rfl (by omega) rfl rfl (fun w63 Iw63 sw63 kw63 uw63 => ?_)
            clear kw63 uw63
            refine sf_iload rfl ?_
            refine sf_lload rfl ?_
            refine sf_lload rfl ?_
            refine sf_l2d (by omega) (fun v64 => ?_)
            refine sf_l2i (fun v65 => ?_)
            refine sf_i2 (fun v66 => ?_)
            refine sf_istore (L' := [(8, .inl (.long v51)), (0, .inl (.ref 71)), (1, .inl (.int a_d)), (2, .inl (.int a_by)), (3, .inl (.long x3)), (5, .inl (.int x5)), (7, .inl (.int x7))]) rfl ?_
            refine sf_iinc (L' := [(6, .inl (.int v66)), (8, .inl (.long v51)), (0, .inl (.ref 71)), (1, .inl (.int a_d)), (2, .inl (.int a_by)), (3, .inl (.long x3)), (5, .inl (.int x5))]) sf_c1 rfl rfl (by omega) (fun v67 ev67 => ?_)
            refine sf_can (L' := [(0, .inl (.ref 71)), (1, .inl (.int a_d)), (2, .inl (.int a_by)), (3, .inl (.long x3)), (5, .inl (.int x5)), (6, .inl (.int v66)), (7, .inl (.int v67))]) rfl ?_
            exact i_88 w63 x3 x5 v66 v67 Iw63 sw63 (by omega) (by omega) (by omega) (by omega) (by omega) (by omega)
          · refine sf_lconst (by decide : (1 : Int64).toInt = 1) (fun z68 ez68 => ?_)
            refine sf_lmulr (n := 1) (by omega) (by omega) (fun v69 ev69 => ?_)
            refine sf_lstore (L' := [(0, .inl (.ref 71)), (1, .inl (.int a_d)), (2, .inl (.int a_by)), (3, .inl (.long x3)), (5, .inl (.int x5)), (6, .inl (.int x6)), (7, .inl (.int x7))]) rfl ?_
            refine sf_aload rfl ?_
            refine sf_getr I_w rfl rfl ?_
            refine sf_iconst sf_c4 (fun z70 ez70 => ?_)
            refine sf_iload rfl ?_
            refine sf_imull (n := 4) (by omega) (by omega) (fun v71 ev71 => ?_)
            refine sf_iload rfl ?_
            refine sf_iadd (by omega) (fun v72 ev72 => ?_)
            refine sf_aload rfl ?_
            refine sf_getr I_w rfl rfl ?_
            refine sf_iconst sf_c4 (fun z73 ez73 => ?_)
            refine sf_iload rfl ?_
            refine sf_imull (n := 4) (by omega) (by omega) (fun v74 ev74 => ?_)
            refine sf_iload rfl ?_
            refine sf_iadd (by omega) (fun v75 ev75 => ?_)
            refine sf_lald I_w rfl (by omega) (fun v76 ev76 => ?_)
            clear ev76
            refine sf_lload rfl ?_
            refine sf_lload rfl ?_
            refine sf_l2d (by omega) (fun v77 => ?_)
            refine sf_l2 (fun v78 => ?_)
            refine sf_last I_w s_w rfl (by omega) rfl rfl (fun w79 Iw79 sw79 kw79 uw79 => ?_)
            clear kw79 uw79
            refine sf_aload rfl ?_
            refine sf_getr Iw79 rfl rfl ?_
            refine sf_iload rfl ?_
            refine sf_lload rfl ?_
            refine sf_lload rfl ?_
            refine sf_l2d (by omega) (fun v80 => ?_)
            refine sf_last Iw79 sw79 rfl (by omega) rfl rfl (fun w81 Iw81 sw81 kw81 uw81 => ?_)
            clear kw81 uw81
            refine sf_iload rfl ?_
            refine sf_lload rfl ?_
            refine sf_lload rfl ?_
            refine sf_l2d (by omega) (fun v82 => ?_)
            refine sf_l2i (fun v83 => ?_)
            refine sf_i2 (fun v84 => ?_)
            refine sf_istore (L' := [(8, .inl (.long v69)), (0, .inl (.ref 71)), (1, .inl (.int a_d)), (2, .inl (.int a_by)), (3, .inl (.long x3)), (5, .inl (.int x5)), (7, .inl (.int x7))]) rfl ?_
            refine sf_iinc (L' := [(6, .inl (.int v84)), (8, .inl (.long v69)), (0, .inl (.ref 71)), (1, .inl (.int a_d)), (2, .inl (.int a_by)), (3, .inl (.long x3)), (5, .inl (.int x5))]) sf_c1 rfl rfl (by omega) (fun v85 ev85 => ?_)
            refine sf_can (L' := [(0, .inl (.ref 71)), (1, .inl (.int a_d)), (2, .inl (.int a_by)), (3, .inl (.long x3)), (5, .inl (.int x5)), (6, .inl (.int v84)), (7, .inl (.int v85))]) rfl ?_
            exact i_88 w81 x3 x5 v84 v85 Iw81 sw81 (by omega) (by omega) (by omega) (by omega) (by omega) (by omega)
      · intro w x6 I_w s_w hm
        show kh_M_spread_194 rt xt (ku_M_spread rt xt n) [(0, .inl (.ref 71)), (1, .inl (.int a_d)), (6, .inl (.int x6))] [] w 0 0
        generalize ku_M_spread rt xt n = K at i_5 i_88 i_194 i_205 ⊢
        have b6 := sf_bd x6
        refine sf_iload rfl ?_
        refine sf_f1_le (fun h86 => ?_) (fun h86 => ?_)
        · refine sf_vreturn rfl rfl ?_
          exact hR _ I_w s_w 
        · refine sf_iconst sf_c0 (fun z87 ez87 => ?_)
          refine sf_istore (L' := [(0, .inl (.ref 71)), (1, .inl (.int a_d)), (6, .inl (.int x6))]) rfl ?_
          refine sf_iconst sf_c0 (fun z88 ez88 => ?_)
          refine sf_istore (L' := [(7, .inl (.int z87)), (0, .inl (.ref 71)), (1, .inl (.int a_d)), (6, .inl (.int x6))]) rfl ?_
          refine sf_can (L' := [(0, .inl (.ref 71)), (1, .inl (.int a_d)), (6, .inl (.int x6)), (7, .inl (.int z87)), (8, .inl (.int z88))]) rfl ?_
          exact i_205 w x6 z87 z88 I_w s_w (by omega) (by omega) (by omega) (by omega) (by omega) (by omega) (by omega)
      · intro w x6 x7 x8 I_w s_w l_x6 u_x6 l_x7 u_x7 l_x8 u_x8 hm
        show kh_M_spread_205 rt xt (ku_M_spread rt xt n) [(0, .inl (.ref 71)), (1, .inl (.int a_d)), (6, .inl (.int x6)), (7, .inl (.int x7)), (8, .inl (.int x8))] [] w 0 0
        generalize ku_M_spread rt xt n = K at i_5 i_88 i_194 i_205 ⊢
        refine sf_iload rfl ?_
        refine sf_aload rfl ?_
        refine sf_getr I_w rfl rfl ?_
        refine sf_iload rfl ?_
        refine sf_iald I_w rfl (by omega) (fun v89 lv89 uv89 ev89 => ?_)
        rw [sf_ma s_w (p := 104) rfl] at ev89
        refine sf_f2_ge (fun h90 => ?_) (fun h90 => ?_)
        · refine sf_aload rfl ?_
          refine sf_getr I_w rfl rfl ?_
          refine sf_iconst sf_c4 (fun z91 ez91 => ?_)
          refine sf_iload rfl ?_
          refine sf_imull (n := 4) (by omega) (by omega) (fun v92 ev92 => ?_)
          refine sf_iload rfl ?_
          refine sf_iadd (by omega) (fun v93 ev93 => ?_)
          refine sf_dup2 rfl rfl ?_
          refine sf_lald I_w rfl (by omega) (fun v94 ev94 => ?_)
          clear ev94
          refine sf_lconst (by decide : (1 : Int64).toInt = 1) (fun z95 ez95 => ?_)
          refine sf_l2 (fun v96 => ?_)
          refine sf_last I_w s_w rfl (by omega) rfl rfl (fun w97 Iw97 sw97 kw97 uw97 => ?_)
          clear kw97 uw97
          refine sf_aload rfl ?_
          refine sf_getr Iw97 rfl rfl ?_
          refine sf_iload rfl ?_
          refine sf_lconst (by decide : (-1 : Int64).toInt = -1) (fun z98 ez98 => ?_)
          refine sf_last Iw97 sw97 rfl (by omega) rfl rfl (fun w99 Iw99 sw99 kw99 uw99 => ?_)
          clear kw99 uw99
          refine sf_iinc (L' := [(0, .inl (.ref 71)), (1, .inl (.int a_d)), (7, .inl (.int x7)), (8, .inl (.int x8))]) sf_cm1 rfl rfl (by omega) (fun v100 ev100 => ?_)
          refine sf_can (L' := [(0, .inl (.ref 71)), (1, .inl (.int a_d)), (6, .inl (.int v100))]) rfl ?_
          exact i_194 w99 v100 Iw99 sw99 (by omega)
        · refine sf_aload rfl ?_
          refine sf_getr I_w rfl rfl ?_
          refine sf_iload rfl ?_
          refine sf_lald I_w rfl (by omega) (fun v101 ev101 => ?_)
          clear ev101
          refine sf_aload rfl ?_
          refine sf_getr I_w rfl rfl ?_
          refine sf_iload rfl ?_
          refine sf_lald I_w rfl (by omega) (fun v102 ev102 => ?_)
          clear ev102
          refine sf_fl_le (fun h103 => ?_) (fun h103 => ?_)
          · refine sf_iload rfl ?_
            refine sf_istore (L' := [(0, .inl (.ref 71)), (1, .inl (.int a_d)), (6, .inl (.int x6)), (8, .inl (.int x8))]) rfl ?_
            refine sf_iinc (L' := [(7, .inl (.int x7)), (0, .inl (.ref 71)), (1, .inl (.int a_d)), (6, .inl (.int x6))]) sf_c1 rfl rfl (by omega) (fun v104 ev104 => ?_)
            refine sf_can (L' := [(0, .inl (.ref 71)), (1, .inl (.int a_d)), (6, .inl (.int x6)), (7, .inl (.int x7)), (8, .inl (.int v104))]) rfl ?_
            exact i_205 w x6 x7 v104 I_w s_w (by omega) (by omega) (by omega) (by omega) (by omega) (by omega) (by omega)
          · refine sf_iload rfl ?_
            refine sf_istore (L' := [(0, .inl (.ref 71)), (1, .inl (.int a_d)), (6, .inl (.int x6)), (8, .inl (.int x8))]) rfl ?_
            refine sf_iinc (L' := [(7, .inl (.int x8)), (0, .inl (.ref 71)), (1, .inl (.int a_d)), (6, .inl (.int x6))]) sf_c1 rfl rfl (by omega) (fun v105 ev105 => ?_)
            refine sf_can (L' := [(0, .inl (.ref 71)), (1, .inl (.int a_d)), (6, .inl (.int x6)), (7, .inl (.int x8)), (8, .inl (.int v105))]) rfl ?_
            exact i_205 w x6 x8 v105 I_w s_w (by omega) (by omega) (by omega) (by omega) (by omega) (by omega) (by omega)
  have hl1 := hl 1000000000000
  obtain ⟨i_5, i_88, i_194, i_205⟩ := hl1
  clear hl
  refine sf_sp (L := [(0, .inl (.ref 71)), (1, .inl (.int a_d)), (2, .inl (.int a_by))]) rfl rfl ?_
  generalize ku_M_spread rt xt 1000000000000 = K at i_5 i_88 i_194 i_205 ⊢
  refine sf_lconst (by decide : (0 : Int64).toInt = 0) (fun z106 ez106 => ?_)
  refine sf_lstore (L' := [(0, .inl (.ref 71)), (1, .inl (.int a_d)), (2, .inl (.int a_by))]) rfl ?_
  refine sf_iconst sf_c0 (fun z107 ez107 => ?_)
  refine sf_istore (L' := [(3, .inl (.long z106)), (0, .inl (.ref 71)), (1, .inl (.int a_d)), (2, .inl (.int a_by))]) rfl ?_
  refine sf_can (L' := [(0, .inl (.ref 71)), (1, .inl (.int a_d)), (2, .inl (.int a_by)), (3, .inl (.long z106)), (5, .inl (.int z107))]) rfl ?_
  exact i_5 w0 z106 z107 hI0 hs0 (by omega) (by omega) (by omega)
def sm_M_value : List Nat := [111, 112]
set_option maxRecDepth 100000 in
set_option maxHeartbeats 4000000 in
theorem sc_M_value {w0 : wq_W} (hI0 : sf_I w0) {rt : Option wq_V → wq_W → Prop} {xt : Nat → wq_W → Prop} {a_d : Int32} (p0 : 0 ≤ a_d.toInt) (p1 : a_d.toInt ≤ 11) (hR : ∀ (w : wq_W), sf_I w → sf_m sm_M_value w0 w → rt none w) : ks_M_value [.inl (.ref 71), .inl (.int a_d)] w0 rt xt := by
  have hs0 : sf_m sm_M_value w0 w0 := sf_m0
  have hl : ∀ n : Nat, (∀ (w : wq_W) (x2 : Int32), (sf_I w) → (sf_m sm_M_value w0 w) → (0 ≤ x2.toInt) → (x2.toInt ≤ 48) → (48 - x2.toInt < (n : Int)) → ku_M_value rt xt n 4 [(0, .inl (.ref 71)), (1, .inl (.int a_d)), (2, .inl (.int x2))] [] w 0 0) := by
    intro n
    induction n with
    | zero =>
      refine ?_
      · intros; omega
    | succ n ih =>
      have i_4 := ih
      intro w x2 I_w s_w l_x2 u_x2 hm
      show kh_M_value_4 rt xt (ku_M_value rt xt n) [(0, .inl (.ref 71)), (1, .inl (.int a_d)), (2, .inl (.int x2))] [] w 0 0
      generalize ku_M_value rt xt n = K at i_4 ⊢
      refine sf_iload rfl ?_
      refine sf_iconst sf_c4 (fun z1 ez1 => ?_)
      refine sf_iload rfl ?_
      refine sf_imull (n := 4) (by omega) (by omega) (fun v2 ev2 => ?_)
      refine sf_aload rfl ?_
      refine sf_getr I_w rfl rfl ?_
      refine sf_iload rfl ?_
      refine sf_iald I_w rfl (by omega) (fun v3 lv3 uv3 ev3 => ?_)
      rw [sf_ma s_w (p := 104) rfl] at ev3
      refine sf_iadd (by omega) (fun v4 ev4 => ?_)
      refine sf_f2_ge (fun h5 => ?_) (fun h5 => ?_)
      · refine sf_aload rfl ?_
        refine sf_getr I_w rfl rfl ?_
        refine sf_iload rfl ?_
        refine sf_iald I_w rfl (by omega) (fun v6 lv6 uv6 ev6 => ?_)
        rw [sf_ma s_w (p := 104) rfl] at ev6
        refine sf_f1_le (fun h7 => ?_) (fun h7 => ?_)
        · refine sf_vreturn rfl rfl ?_
          exact hR _ I_w s_w 
        · refine sf_aload rfl ?_
          refine sf_iload rfl ?_
          refine sf_iconst sf_c0 (fun z8 ez8 => ?_)
          refine sf_call3 rfl rfl rfl ?_
          refine sf_rv I_w rfl ?_
          refine sc_M_spread I_w (by omega) (by omega) (by omega) (by omega) (by rw [sf_ma s_w (p := 104) rfl]; omega) (fun w9 Iw9 tw9 => ?_)
          have s11 := sf_mt s_w tw9 rfl
          refine sf_aload rfl ?_
          refine sf_iload rfl ?_
          refine sf_iconst sf_c1 (fun z12 ez12 => ?_)
          refine sf_call3 rfl rfl rfl ?_
          refine sf_rv Iw9 rfl ?_
          refine sc_M_spread Iw9 (by omega) (by omega) (by omega) (by omega) (by rw [sf_ma s11 (p := 104) rfl]; omega) (fun w13 Iw13 tw13 => ?_)
          have s15 := sf_mt s11 tw13 rfl
          refine sf_vreturn rfl rfl ?_
          exact hR _ Iw13 s15 
      · refine sf_aload rfl ?_
        refine sf_getr I_w rfl rfl ?_
        refine sf_iload rfl ?_
        refine sf_aload rfl ?_
        refine sf_getr I_w rfl rfl ?_
        refine sf_iconst sf_c3 (fun z16 ez16 => ?_)
        refine sf_iload rfl ?_
        refine sf_imull (n := 3) (by omega) (by omega) (fun v17 ev17 => ?_)
        refine sf_iconst sf_c2 (fun z18 ez18 => ?_)
        refine sf_iadd (by omega) (fun v19 ev19 => ?_)
        refine sf_iald I_w rfl (by omega) (fun v20 lv20 uv20 ev20 => ?_)
        rw [sf_ma s_w (p := 110) rfl] at ev20
        refine sf_i2lb (fun v21 ev21 lv21 uv21 => ?_)
        refine sf_last I_w s_w rfl (by omega) rfl rfl (fun w22 Iw22 sw22 kw22 uw22 => ?_)
        clear kw22 uw22
        refine sf_iinc (L' := [(0, .inl (.ref 71)), (1, .inl (.int a_d))]) sf_c1 rfl rfl (by omega) (fun v23 ev23 => ?_)
        refine sf_can (L' := [(0, .inl (.ref 71)), (1, .inl (.int a_d)), (2, .inl (.int v23))]) rfl ?_
        exact i_4 w22 v23 Iw22 sw22 (by omega) (by omega) (by omega)
  have hl1 := hl 1000000000000
  have i_4 := hl1
  clear hl hl1
  refine sf_sp (L := [(0, .inl (.ref 71)), (1, .inl (.int a_d))]) rfl rfl ?_
  generalize ku_M_value rt xt 1000000000000 = K at i_4 ⊢
  refine sf_iconst sf_c4 (fun z24 ez24 => ?_)
  refine sf_iload rfl ?_
  refine sf_imull (n := 4) (by omega) (by omega) (fun v25 ev25 => ?_)
  refine sf_istore (L' := [(0, .inl (.ref 71)), (1, .inl (.int a_d))]) rfl ?_
  refine sf_can (L' := [(0, .inl (.ref 71)), (1, .inl (.int a_d)), (2, .inl (.int v25))]) rfl ?_
  exact i_4 w0 v25 hI0 hs0 (by omega) (by omega) (by omega)
def sm_M_isLate : List Nat := []
set_option maxRecDepth 100000 in
set_option maxHeartbeats 4000000 in
theorem sc_M_isLate {w0 : wq_W} (hI0 : sf_I w0) {rt : Option wq_V → wq_W → Prop} {xt : Nat → wq_W → Prop} {a_d : Int32} (p0 : 0 ≤ a_d.toInt) (p1 : a_d.toInt ≤ 11) (hR : ∀ (r : Int32), 0 ≤ r.toInt → r.toInt ≤ 1 → (r.toInt = 1 ↔ sl_LT (sf_a w0 102) (sf_a w0 103) (sf_f w0 71 41).toInt a_d.toInt.toNat) → rt (some (.inl (.int r))) w0) : ks_M_isLate [.inl (.ref 71), .inl (.int a_d)] w0 rt xt := by
  refine sf_sp (L := [(0, .inl (.ref 71)), (1, .inl (.int a_d))]) rfl rfl ?_
  refine sf_aload rfl ?_
  refine sf_geti hI0 rfl rfl (fun v1 lv1 uv1 ev1 => ?_)
  refine sf_f1_ge (fun h2 => ?_) (fun h2 => ?_)
  · refine sf_aload rfl ?_
    refine sf_getr hI0 rfl rfl ?_
    refine sf_aload rfl ?_
    refine sf_geti hI0 rfl rfl (fun v3 lv3 uv3 ev3 => ?_)
    refine sf_iald hI0 rfl (by omega) (fun v4 lv4 uv4 ev4 => ?_)
    clear lv4 uv4
    rw [ev3] at ev4
    refine sf_aload rfl ?_
    refine sf_getr hI0 rfl rfl ?_
    refine sf_iload rfl ?_
    refine sf_iald hI0 rfl (by omega) (fun v5 lv5 uv5 ev5 => ?_)
    clear lv5 uv5
    skip
    refine sf_f2_eq (fun h6 => ?_) (fun h6 => ?_)
    · refine sf_aload rfl ?_
      refine sf_getr hI0 rfl rfl ?_
      refine sf_aload rfl ?_
      refine sf_geti hI0 rfl rfl (fun v7 lv7 uv7 ev7 => ?_)
      refine sf_iald hI0 rfl (by omega) (fun v8 lv8 uv8 ev8 => ?_)
      clear lv8 uv8
      rw [ev7] at ev8
      refine sf_aload rfl ?_
      refine sf_getr hI0 rfl rfl ?_
      refine sf_iload rfl ?_
      refine sf_iald hI0 rfl (by omega) (fun v9 lv9 uv9 ev9 => ?_)
      clear lv9 uv9
      skip
      refine sf_f2_eq (fun h10 => ?_) (fun h10 => ?_)
      · refine sf_aload rfl ?_
        refine sf_geti hI0 rfl rfl (fun v11 lv11 uv11 ev11 => ?_)
        refine sf_iload rfl ?_
        refine sf_f2_le (fun h12 => ?_) (fun h12 => ?_)
        · refine sf_iconst sf_c0 (fun z13 ez13 => ?_)
          refine sf_zreturn (by omega) rfl rfl ?_
          exact hR _ (by omega) (by omega) (by unfold sl_LT sl_lt; omega)
        · refine sf_iconst sf_c1 (fun z14 ez14 => ?_)
          refine sf_zreturn (by omega) rfl rfl ?_
          exact hR _ (by omega) (by omega) (by unfold sl_LT sl_lt; omega)
      · refine sf_aload rfl ?_
        refine sf_getr hI0 rfl rfl ?_
        refine sf_aload rfl ?_
        refine sf_geti hI0 rfl rfl (fun v15 lv15 uv15 ev15 => ?_)
        refine sf_iald hI0 rfl (by omega) (fun v16 lv16 uv16 ev16 => ?_)
        clear lv16 uv16
        rw [ev15] at ev16
        refine sf_aload rfl ?_
        refine sf_getr hI0 rfl rfl ?_
        refine sf_iload rfl ?_
        refine sf_iald hI0 rfl (by omega) (fun v17 lv17 uv17 ev17 => ?_)
        clear lv17 uv17
        skip
        refine sf_f2_le (fun h18 => ?_) (fun h18 => ?_)
        · refine sf_iconst sf_c0 (fun z19 ez19 => ?_)
          refine sf_zreturn (by omega) rfl rfl ?_
          exact hR _ (by omega) (by omega) (by unfold sl_LT sl_lt; omega)
        · refine sf_iconst sf_c1 (fun z20 ez20 => ?_)
          refine sf_zreturn (by omega) rfl rfl ?_
          exact hR _ (by omega) (by omega) (by unfold sl_LT sl_lt; omega)
    · refine sf_aload rfl ?_
      refine sf_getr hI0 rfl rfl ?_
      refine sf_aload rfl ?_
      refine sf_geti hI0 rfl rfl (fun v21 lv21 uv21 ev21 => ?_)
      refine sf_iald hI0 rfl (by omega) (fun v22 lv22 uv22 ev22 => ?_)
      clear lv22 uv22
      rw [ev21] at ev22
      refine sf_aload rfl ?_
      refine sf_getr hI0 rfl rfl ?_
      refine sf_iload rfl ?_
      refine sf_iald hI0 rfl (by omega) (fun v23 lv23 uv23 ev23 => ?_)
      clear lv23 uv23
      skip
      refine sf_f2_le (fun h24 => ?_) (fun h24 => ?_)
      · refine sf_iconst sf_c0 (fun z25 ez25 => ?_)
        refine sf_zreturn (by omega) rfl rfl ?_
        exact hR _ (by omega) (by omega) (by unfold sl_LT sl_lt; omega)
      · refine sf_iconst sf_c1 (fun z26 ez26 => ?_)
        refine sf_zreturn (by omega) rfl rfl ?_
        exact hR _ (by omega) (by omega) (by unfold sl_LT sl_lt; omega)
  · refine sf_iconst sf_c0 (fun z27 ez27 => ?_)
    refine sf_zreturn (by omega) rfl rfl ?_
    exact hR _ (by omega) (by omega) (by unfold sl_LT sl_lt; omega)
def sm_M_find : List Nat := [117, 118]
set_option maxRecDepth 100000 in
set_option maxHeartbeats 4000000 in
theorem sc_M_find {w0 : wq_W} (hI0 : sf_I w0) {rt : Option wq_V → wq_W → Prop} {xt : Nat → wq_W → Prop} {a_d : Int32} (p0 : 0 ≤ a_d.toInt) (p1 : a_d.toInt ≤ 11) (hR : ∀ (r : Int32) (w : wq_W), sf_I w → sf_m sm_M_find w0 w → 0 ≤ r.toInt → r.toInt ≤ 1 → (r.toInt = 1 → ∀ k : Nat, (k : Int) < (sf_a w 104 a_d.toInt.toNat).toInt → 0 ≤ (sf_a w 117 k).toInt) → rt (some (.inl (.int r))) w) : ks_M_find [.inl (.ref 71), .inl (.int a_d)] w0 rt xt := by
  have hs0 : sf_m sm_M_find w0 w0 := sf_m0
  have hl : ∀ n : Nat, (∀ (w : wq_W) (x2 : Int32) (x3 : Int32), (sf_I w) → (sf_m sm_M_find w0 w) → (0 ≤ x2.toInt) → (x2.toInt ≤ 1) → (0 ≤ x3.toInt) → (x3.toInt ≤ 4) → (x2.toInt = 1 → ∀ j : Nat, (j : Int) < x3.toInt → 0 ≤ (sf_a w 117 j).toInt) → (4 - x3.toInt < (n : Int)) → ku_M_find rt xt n 17 [(0, .inl (.ref 71)), (1, .inl (.int a_d)), (2, .inl (.int x2)), (3, .inl (.int x3))] [] w 0 0) := by
    intro n
    induction n with
    | zero =>
      refine ?_
      · intros; omega
    | succ n ih =>
      have i_17 := ih
      intro w x2 x3 I_w s_w l_x2 u_x2 l_x3 u_x3 f_0 hm
      show kh_M_find_17 rt xt (ku_M_find rt xt n) [(0, .inl (.ref 71)), (1, .inl (.int a_d)), (2, .inl (.int x2)), (3, .inl (.int x3))] [] w 0 0
      generalize ku_M_find rt xt n = K at i_17 ⊢
      refine sf_iload rfl ?_
      refine sf_aload rfl ?_
      refine sf_getr I_w rfl rfl ?_
      refine sf_iload rfl ?_
      refine sf_iald I_w rfl (by omega) (fun v1 lv1 uv1 ev1 => ?_)
      rw [sf_ma s_w (p := 104) rfl] at ev1
      refine sf_f2_ge (fun h2 => ?_) (fun h2 => ?_)
      · refine sf_iload rfl ?_
        refine sf_zreturn (by omega) rfl rfl ?_
        exact hR _ _ I_w s_w (by omega) (by omega) (fun h9 => by rw [sf_ma s_w (p := 104) rfl]; intro j hj; exact f_0 h9 j (by omega))
      · refine sf_iconst sf_c4 (fun z3 ez3 => ?_)
        refine sf_iload rfl ?_
        refine sf_imull (n := 4) (by omega) (by omega) (fun v4 ev4 => ?_)
        refine sf_iload rfl ?_
        refine sf_iadd (by omega) (fun v5 ev5 => ?_)
        refine sf_istore (L' := [(0, .inl (.ref 71)), (1, .inl (.int a_d)), (2, .inl (.int x2)), (3, .inl (.int x3))]) rfl ?_
        refine sf_aload rfl ?_
        refine sf_aload rfl ?_
        refine sf_getr I_w rfl rfl ?_
        refine sf_iload rfl ?_
        refine sf_iald I_w rfl (by omega) (fun v6 lv6 uv6 ev6 => ?_)
        clear ev6
        refine sf_call2 rfl rfl rfl ?_
        refine sf_rv I_w rfl ?_
        refine sc_M_classOf I_w (by omega) (by omega) (fun v7 lv7 uv7 q8_0 => ?_)
        rw [sf_mf s_w (p := 71) (j := 1) rfl] at q8_0
        refine sf_istore (L' := [(4, .inl (.int v5)), (0, .inl (.ref 71)), (1, .inl (.int a_d)), (2, .inl (.int x2)), (3, .inl (.int x3))]) rfl ?_
        refine sf_aload rfl ?_
        refine sf_getr I_w rfl rfl ?_
        refine sf_iload rfl ?_
        refine sf_iload rfl ?_
        refine sf_f1_ge (fun h9 => ?_) (fun h9 => ?_)
        · refine sf_aload rfl ?_
          refine sf_iload rfl ?_
          refine sf_aload rfl ?_
          refine sf_getr I_w rfl rfl ?_
          refine sf_iload rfl ?_
          refine sf_iald I_w rfl (by omega) (fun v10 lv10 uv10 ev10 => ?_)
          clear lv10 uv10
          clear ev10
          refine sf_aload rfl ?_
          refine sf_getr I_w rfl rfl ?_
          refine sf_iload rfl ?_
          refine sf_iald I_w rfl (by omega) (fun v11 lv11 uv11 ev11 => ?_)
          clear lv11 uv11
          clear ev11
          refine sf_call4 rfl rfl rfl ?_
          refine sf_rv I_w rfl ?_
          refine sc_M_rateOf I_w (by omega) (by omega) (by rw [sf_mf s_w (p := 71) (j := 1) rfl]; omega) (fun v12 lv12 uv12 q13_0 => ?_)
          rw [sf_ma s_w (p := 72) rfl] at q13_0
          rw [sf_ma s_w (p := 79) rfl] at q13_0
          rw [sf_ma s_w (p := 80) rfl] at q13_0
          rw [sf_ma s_w (p := 84) rfl] at q13_0
          rw [sf_ma s_w (p := 85) rfl] at q13_0
          rw [sf_mf s_w (p := 71) (j := 10) rfl] at q13_0
          refine sf_iast I_w s_w rfl (by omega) (by omega) rfl rfl (fun w14 Iw14 sw14 kw14 uw14 => ?_)
          clear kw14
          have g2 := uw14
          have g4 : (sf_a w14 117 x3.toInt.toNat).toInt = v12.toInt := by rw [uw14]; unfold upd; rw [if_pos rfl]
          refine sf_aload rfl ?_
          refine sf_getr Iw14 rfl rfl ?_
          refine sf_iload rfl ?_
          refine sf_iload rfl ?_
          refine sf_f1_ge (fun h15 => ?_) (fun h15 => absurd h15 (by omega))
          refine sf_aload rfl ?_
          refine sf_iload rfl ?_
          refine sf_aload rfl ?_
          refine sf_getr Iw14 rfl rfl ?_
          refine sf_iload rfl ?_
          refine sf_iald Iw14 rfl (by omega) (fun v16 lv16 uv16 ev16 => ?_)
          clear lv16 uv16
          clear ev16
          refine sf_aload rfl ?_
          refine sf_getr Iw14 rfl rfl ?_
          refine sf_iload rfl ?_
          refine sf_iald Iw14 rfl (by omega) (fun v17 lv17 uv17 ev17 => ?_)
          clear lv17 uv17
          clear ev17
          refine sf_call4 rfl rfl rfl ?_
          refine sf_rv Iw14 rfl ?_
          refine sc_M_quotaOf Iw14 (by omega) (by omega) (by rw [sf_mf sw14 (p := 71) (j := 1) rfl]; omega) (fun v18 lv18 uv18 => ?_)
          refine sf_iast Iw14 sw14 rfl (by omega) (by omega) rfl rfl (fun w20 Iw20 sw20 kw20 uw20 => ?_)
          have c21 := sf_ma kw20 (p := 117) rfl
          clear kw20 uw20
          refine sf_iload rfl ?_
          refine sf_f1_eq (fun h22 => ?_) (fun h22 => ?_)
          · refine sf_iconst sf_c0 (fun z23 ez23 => ?_)
            refine sf_istore (L' := [(5, .inl (.int v7)), (4, .inl (.int v5)), (0, .inl (.ref 71)), (1, .inl (.int a_d)), (3, .inl (.int x3))]) rfl ?_
            refine sf_iinc (L' := [(2, .inl (.int z23)), (5, .inl (.int v7)), (4, .inl (.int v5)), (0, .inl (.ref 71)), (1, .inl (.int a_d))]) sf_c1 rfl rfl (by omega) (fun v24 ev24 => ?_)
            refine sf_can (L' := [(0, .inl (.ref 71)), (1, .inl (.int a_d)), (2, .inl (.int z23)), (3, .inl (.int v24))]) rfl ?_
            exact i_17 w20 z23 v24 Iw20 sw20 (by omega) (by omega) (by omega) (by omega) (by first | (intro _ j hj; omega) | (intro ha j hj; rw [c21]; rw [g2]; by_cases hj2 : j = x3.toInt.toNat; (subst hj2; rw [g2] at g3; omega); (unfold upd; rw [if_neg hj2]; exact f_0 (by omega) j (by omega)))) (by omega)
          · refine sf_aload rfl ?_
            refine sf_getr Iw20 rfl rfl ?_
            refine sf_iload rfl ?_
            refine sf_iald Iw20 rfl (by omega) (fun v25 lv25 uv25 ev25 => ?_)
            rw [c21] at ev25
            have g3 := ev25
            refine sf_f1_lt (fun h26 => ?_) (fun h26 => ?_)
            · refine sf_iconst sf_c0 (fun z27 ez27 => ?_)
              refine sf_istore (L' := [(5, .inl (.int v7)), (4, .inl (.int v5)), (0, .inl (.ref 71)), (1, .inl (.int a_d)), (3, .inl (.int x3))]) rfl ?_
              refine sf_iinc (L' := [(2, .inl (.int z27)), (5, .inl (.int v7)), (4, .inl (.int v5)), (0, .inl (.ref 71)), (1, .inl (.int a_d))]) sf_c1 rfl rfl (by omega) (fun v28 ev28 => ?_)
              refine sf_can (L' := [(0, .inl (.ref 71)), (1, .inl (.int a_d)), (2, .inl (.int z27)), (3, .inl (.int v28))]) rfl ?_
              exact i_17 w20 z27 v28 Iw20 sw20 (by omega) (by omega) (by omega) (by omega) (by first | (intro _ j hj; omega) | (intro ha j hj; rw [c21]; rw [g2]; by_cases hj2 : j = x3.toInt.toNat; (subst hj2; rw [g2] at g3; omega); (unfold upd; rw [if_neg hj2]; exact f_0 (by omega) j (by omega)))) (by omega)
            · refine sf_iconst sf_c1 (fun z29 ez29 => ?_)
              refine sf_istore (L' := [(5, .inl (.int v7)), (4, .inl (.int v5)), (0, .inl (.ref 71)), (1, .inl (.int a_d)), (3, .inl (.int x3))]) rfl ?_
              refine sf_iinc (L' := [(2, .inl (.int z29)), (5, .inl (.int v7)), (4, .inl (.int v5)), (0, .inl (.ref 71)), (1, .inl (.int a_d))]) sf_c1 rfl rfl (by omega) (fun v30 ev30 => ?_)
              refine sf_can (L' := [(0, .inl (.ref 71)), (1, .inl (.int a_d)), (2, .inl (.int z29)), (3, .inl (.int v30))]) rfl ?_
              exact i_17 w20 z29 v30 Iw20 sw20 (by omega) (by omega) (by omega) (by omega) (by first | (intro _ j hj; omega) | (intro ha j hj; rw [c21]; rw [g2]; by_cases hj2 : j = x3.toInt.toNat; (subst hj2; rw [g2] at g3; omega); (unfold upd; rw [if_neg hj2]; exact f_0 (by omega) j (by omega)))) (by omega)
        · refine sf_iconst sf_cm1 (fun z31 ez31 => ?_)
          refine sf_iast I_w s_w rfl (by omega) (by omega) rfl rfl (fun w32 Iw32 sw32 kw32 uw32 => ?_)
          clear kw32
          have g2 := uw32
          have g4 : (sf_a w32 117 x3.toInt.toNat).toInt = z31.toInt := by rw [uw32]; unfold upd; rw [if_pos rfl]
          refine sf_aload rfl ?_
          refine sf_getr Iw32 rfl rfl ?_
          refine sf_iload rfl ?_
          refine sf_iload rfl ?_
          refine sf_f1_ge (fun h33 => absurd h33 (by omega)) (fun h33 => ?_)
          refine sf_iconst sf_cm1 (fun z34 ez34 => ?_)
          refine sf_iast Iw32 sw32 rfl (by omega) (by omega) rfl rfl (fun w35 Iw35 sw35 kw35 uw35 => ?_)
          have c36 := sf_ma kw35 (p := 117) rfl
          clear kw35 uw35
          refine sf_iload rfl ?_
          refine sf_f1_eq (fun h37 => ?_) (fun h37 => ?_)
          · refine sf_iconst sf_c0 (fun z38 ez38 => ?_)
            refine sf_istore (L' := [(5, .inl (.int v7)), (4, .inl (.int v5)), (0, .inl (.ref 71)), (1, .inl (.int a_d)), (3, .inl (.int x3))]) rfl ?_
            refine sf_iinc (L' := [(2, .inl (.int z38)), (5, .inl (.int v7)), (4, .inl (.int v5)), (0, .inl (.ref 71)), (1, .inl (.int a_d))]) sf_c1 rfl rfl (by omega) (fun v39 ev39 => ?_)
            refine sf_can (L' := [(0, .inl (.ref 71)), (1, .inl (.int a_d)), (2, .inl (.int z38)), (3, .inl (.int v39))]) rfl ?_
            exact i_17 w35 z38 v39 Iw35 sw35 (by omega) (by omega) (by omega) (by omega) (by first | (intro _ j hj; omega) | (intro ha j hj; rw [c36]; rw [g2]; by_cases hj2 : j = x3.toInt.toNat; (subst hj2; rw [g2] at g3; omega); (unfold upd; rw [if_neg hj2]; exact f_0 (by omega) j (by omega)))) (by omega)
          · refine sf_aload rfl ?_
            refine sf_getr Iw35 rfl rfl ?_
            refine sf_iload rfl ?_
            refine sf_iald Iw35 rfl (by omega) (fun v40 lv40 uv40 ev40 => ?_)
            rw [c36] at ev40
            have g3 := ev40
            refine sf_f1_lt (fun h41 => ?_) (fun h41 => ?_)
            · refine sf_iconst sf_c0 (fun z42 ez42 => ?_)
              refine sf_istore (L' := [(5, .inl (.int v7)), (4, .inl (.int v5)), (0, .inl (.ref 71)), (1, .inl (.int a_d)), (3, .inl (.int x3))]) rfl ?_
              refine sf_iinc (L' := [(2, .inl (.int z42)), (5, .inl (.int v7)), (4, .inl (.int v5)), (0, .inl (.ref 71)), (1, .inl (.int a_d))]) sf_c1 rfl rfl (by omega) (fun v43 ev43 => ?_)
              refine sf_can (L' := [(0, .inl (.ref 71)), (1, .inl (.int a_d)), (2, .inl (.int z42)), (3, .inl (.int v43))]) rfl ?_
              exact i_17 w35 z42 v43 Iw35 sw35 (by omega) (by omega) (by omega) (by omega) (by first | (intro _ j hj; omega) | (intro ha j hj; rw [c36]; rw [g2]; by_cases hj2 : j = x3.toInt.toNat; (subst hj2; rw [g2] at g3; omega); (unfold upd; rw [if_neg hj2]; exact f_0 (by omega) j (by omega)))) (by omega)
            · refine sf_iconst sf_c1 (fun z44 ez44 => ?_)
              refine sf_istore (L' := [(5, .inl (.int v7)), (4, .inl (.int v5)), (0, .inl (.ref 71)), (1, .inl (.int a_d)), (3, .inl (.int x3))]) rfl ?_
              refine sf_iinc (L' := [(2, .inl (.int z44)), (5, .inl (.int v7)), (4, .inl (.int v5)), (0, .inl (.ref 71)), (1, .inl (.int a_d))]) sf_c1 rfl rfl (by omega) (fun v45 ev45 => ?_)
              refine sf_can (L' := [(0, .inl (.ref 71)), (1, .inl (.int a_d)), (2, .inl (.int z44)), (3, .inl (.int v45))]) rfl ?_
              exact i_17 w35 z44 v45 Iw35 sw35 (by omega) (by omega) (by omega) (by omega) (by first | (intro _ j hj; omega) | (intro ha j hj; rw [c36]; rw [g2]; by_cases hj2 : j = x3.toInt.toNat; (subst hj2; rw [g2] at g3; omega); (unfold upd; rw [if_neg hj2]; exact f_0 (by omega) j (by omega)))) (by omega)
  have hl1 := hl 1000000000000
  have i_17 := hl1
  clear hl hl1
  refine sf_sp (L := [(0, .inl (.ref 71)), (1, .inl (.int a_d))]) rfl rfl ?_
  generalize ku_M_find rt xt 1000000000000 = K at i_17 ⊢
  refine sf_aload rfl ?_
  refine sf_getr hI0 rfl rfl ?_
  refine sf_iload rfl ?_
  refine sf_iald hI0 rfl (by omega) (fun v46 lv46 uv46 ev46 => ?_)
  refine sf_f1_le (fun h47 => ?_) (fun h47 => ?_)
  · refine sf_iconst sf_c0 (fun z48 ez48 => ?_)
    refine sf_istore (L' := [(0, .inl (.ref 71)), (1, .inl (.int a_d))]) rfl ?_
    refine sf_iconst sf_c0 (fun z49 ez49 => ?_)
    refine sf_istore (L' := [(2, .inl (.int z48)), (0, .inl (.ref 71)), (1, .inl (.int a_d))]) rfl ?_
    refine sf_can (L' := [(0, .inl (.ref 71)), (1, .inl (.int a_d)), (2, .inl (.int z48)), (3, .inl (.int z49))]) rfl ?_
    exact i_17 w0 z48 z49 hI0 hs0 (by omega) (by omega) (by omega) (by omega) (by first | (intro _ j hj; omega) | (intro ha j hj; rw [g2]; by_cases hj2 : j = x3.toInt.toNat; (subst hj2; rw [g2] at g3; omega); (unfold upd; rw [if_neg hj2]; exact f_0 (by omega) j (by omega)))) (by omega)
  · refine sf_iconst sf_c1 (fun z50 ez50 => ?_)
    refine sf_istore (L' := [(0, .inl (.ref 71)), (1, .inl (.int a_d))]) rfl ?_
    refine sf_iconst sf_c0 (fun z51 ez51 => ?_)
    refine sf_istore (L' := [(2, .inl (.int z50)), (0, .inl (.ref 71)), (1, .inl (.int a_d))]) rfl ?_
    refine sf_can (L' := [(0, .inl (.ref 71)), (1, .inl (.int a_d)), (2, .inl (.int z50)), (3, .inl (.int z51))]) rfl ?_
    exact i_17 w0 z50 z51 hI0 hs0 (by omega) (by omega) (by omega) (by omega) (by first | (intro _ j hj; omega) | (intro ha j hj; rw [g2]; by_cases hj2 : j = x3.toInt.toNat; (subst hj2; rw [g2] at g3; omega); (unfold upd; rw [if_neg hj2]; exact f_0 (by omega) j (by omega)))) (by omega)
def sm_M_find_K : List Nat := [117, 118]
set_option maxRecDepth 100000 in
set_option maxHeartbeats 4000000 in
theorem sc_M_find_K {w0 : wq_W} (hI0 : sf_I w0) {rt : Option wq_V → wq_W → Prop} {xt : Nat → wq_W → Prop} {a_d : Int32} (p0 : 0 ≤ a_d.toInt) (p1 : a_d.toInt ≤ 11) (p2 : sf_J (sf_a w0 3) (sf_a w0 72) (sf_f w0 71 1).toInt) (hR : ∀ (r : Int32) (w : wq_W), sf_I w → sf_m sm_M_find_K w0 w → 0 ≤ r.toInt → r.toInt ≤ 1 → (r.toInt = 1 → ∀ k : Nat, (k : Int) < (sf_a w 104 a_d.toInt.toNat).toInt → 0 ≤ (sf_a w 117 k).toInt) → (r.toInt = 1 ↔ sc_ok (sc_rm (sc_b (sf_a w0 72) (sf_a w0 75) (sf_a w0 76) (sf_a w0 77) (sf_a w0 78) (sf_a w0 3) (sp_aa (sf_a w0 93)) (sf_f w0 71 5).toInt (sf_f w0 71 1).toInt) (sf_a w0 72) (sf_a w0 79) (sf_a w0 80) (sf_a w0 84) (sf_a w0 85) (sf_f w0 71 10).toInt (sf_a w0 107) (sf_a w0 108) (sf_a w0 102 a_d.toInt.toNat).toInt (4 * a_d.toInt).toNat) (sf_a w0 104 a_d.toInt.toNat).toInt) → rt (some (.inl (.int r))) w) : ks_M_find [.inl (.ref 71), .inl (.int a_d)] w0 rt xt := by
  have hs0 : sf_m sm_M_find_K w0 w0 := sf_m0
  have hl : ∀ n : Nat, (∀ (w : wq_W) (x2 : Int32) (x3 : Int32), (sf_I w) → (sf_m sm_M_find_K w0 w) → (0 ≤ x2.toInt) → (x2.toInt ≤ 1) → (0 ≤ x3.toInt) → (x3.toInt ≤ 4) → (x2.toInt = 1 → ∀ j : Nat, (j : Int) < x3.toInt → 0 ≤ (sf_a w 117 j).toInt) → (x2.toInt = 1 ↔ (0 < (sf_a w0 104 a_d.toInt.toNat).toInt ∧ ∀ j : Nat, (j : Int) < x3.toInt → 0 ≤ (sc_rm (sc_b (sf_a w0 72) (sf_a w0 75) (sf_a w0 76) (sf_a w0 77) (sf_a w0 78) (sf_a w0 3) (sp_aa (sf_a w0 93)) (sf_f w0 71 5).toInt (sf_f w0 71 1).toInt) (sf_a w0 72) (sf_a w0 79) (sf_a w0 80) (sf_a w0 84) (sf_a w0 85) (sf_f w0 71 10).toInt (sf_a w0 107) (sf_a w0 108) (sf_a w0 102 a_d.toInt.toNat).toInt (4 * a_d.toInt).toNat) j)) → (x3.toInt ≤ (sf_a w0 104 a_d.toInt.toNat).toInt) → (4 - x3.toInt < (n : Int)) → ku_M_find rt xt n 17 [(0, .inl (.ref 71)), (1, .inl (.int a_d)), (2, .inl (.int x2)), (3, .inl (.int x3))] [] w 0 0) := by
    intro n
    induction n with
    | zero =>
      refine ?_
      · intros; omega
    | succ n ih =>
      have i_17 := ih
      intro w x2 x3 I_w s_w l_x2 u_x2 l_x3 u_x3 f_0 f_1 f_2 hm
      show kh_M_find_17 rt xt (ku_M_find rt xt n) [(0, .inl (.ref 71)), (1, .inl (.int a_d)), (2, .inl (.int x2)), (3, .inl (.int x3))] [] w 0 0
      generalize ku_M_find rt xt n = K at i_17 ⊢
      refine sf_iload rfl ?_
      refine sf_aload rfl ?_
      refine sf_getr I_w rfl rfl ?_
      refine sf_iload rfl ?_
      refine sf_iald I_w rfl (by omega) (fun v1 lv1 uv1 ev1 => ?_)
      rw [sf_ma s_w (p := 104) rfl] at ev1
      refine sf_f2_ge (fun h2 => ?_) (fun h2 => ?_)
      · refine sf_iload rfl ?_
        refine sf_zreturn (by omega) rfl rfl ?_
        exact hR _ _ I_w s_w (by omega) (by omega) (fun h9 => by rw [sf_ma s_w (p := 104) rfl]; intro j hj; exact f_0 h9 j (by omega)) (by rw [f_1]; exact ⟨fun ⟨h1, h2⟩ => ⟨h1, fun k hk => h2 k (by omega)⟩, fun ⟨h1, h2⟩ => ⟨h1, fun k hk => h2 k (by omega)⟩⟩)
      · refine sf_iconst sf_c4 (fun z3 ez3 => ?_)
        refine sf_iload rfl ?_
        refine sf_imull (n := 4) (by omega) (by omega) (fun v4 ev4 => ?_)
        refine sf_iload rfl ?_
        refine sf_iadd (by omega) (fun v5 ev5 => ?_)
        refine sf_istore (L' := [(0, .inl (.ref 71)), (1, .inl (.int a_d)), (2, .inl (.int x2)), (3, .inl (.int x3))]) rfl ?_
        refine sf_aload rfl ?_
        refine sf_aload rfl ?_
        refine sf_getr I_w rfl rfl ?_
        refine sf_iload rfl ?_
        refine sf_iald I_w rfl (by omega) (fun v6 lv6 uv6 ev6 => ?_)
        rw [sf_ma s_w (p := 107) rfl] at ev6
        have gg := ev6
        rw [show v5.toInt.toNat = (4 * a_d.toInt).toNat + x3.toInt.toNat by omega] at gg
        refine sf_call2 rfl rfl rfl ?_
        refine sf_rv I_w rfl ?_
        refine sc_M_classOf_K I_w (by omega) (by omega) (by rw [sf_ma s_w (p := 3) rfl]; rw [sf_ma s_w (p := 72) rfl]; rw [sf_mf s_w (p := 71) (j := 1) rfl]; exact p2) (fun v7 lv7 uv7 q8_0 q8_1 => ?_)
        rw [sf_mf s_w (p := 71) (j := 1) rfl] at q8_0
        rw [sf_ma s_w (p := 3) rfl] at q8_1
        rw [sf_ma s_w (p := 72) rfl] at q8_1
        rw [sf_ma s_w (p := 75) rfl] at q8_1
        rw [sf_ma s_w (p := 76) rfl] at q8_1
        rw [sf_ma s_w (p := 77) rfl] at q8_1
        rw [sf_ma s_w (p := 78) rfl] at q8_1
        rw [sf_ma s_w (p := 93) rfl] at q8_1
        rw [sf_mf s_w (p := 71) (j := 1) rfl] at q8_1
        rw [sf_mf s_w (p := 71) (j := 5) rfl] at q8_1
        have gb9 := q8_1
        rw [gg] at gb9
        have gb : v7.toInt = (sc_b (sf_a w0 72) (sf_a w0 75) (sf_a w0 76) (sf_a w0 77) (sf_a w0 78) (sf_a w0 3) (sp_aa (sf_a w0 93)) (sf_f w0 71 5).toInt (sf_f w0 71 1).toInt) (sf_a w0 107 ((4 * a_d.toInt).toNat + x3.toInt.toNat)).toInt := gb9
        refine sf_istore (L' := [(4, .inl (.int v5)), (0, .inl (.ref 71)), (1, .inl (.int a_d)), (2, .inl (.int x2)), (3, .inl (.int x3))]) rfl ?_
        refine sf_aload rfl ?_
        refine sf_getr I_w rfl rfl ?_
        refine sf_iload rfl ?_
        refine sf_iload rfl ?_
        refine sf_f1_ge (fun h9 => ?_) (fun h9 => ?_)
        · refine sf_aload rfl ?_
          refine sf_iload rfl ?_
          refine sf_aload rfl ?_
          refine sf_getr I_w rfl rfl ?_
          refine sf_iload rfl ?_
          refine sf_iald I_w rfl (by omega) (fun v10 lv10 uv10 ev10 => ?_)
          clear lv10 uv10
          rw [sf_ma s_w (p := 108) rfl] at ev10
          have gl := ev10
          rw [show v5.toInt.toNat = (4 * a_d.toInt).toNat + x3.toInt.toNat by omega] at gl
          refine sf_aload rfl ?_
          refine sf_getr I_w rfl rfl ?_
          refine sf_iload rfl ?_
          refine sf_iald I_w rfl (by omega) (fun v11 lv11 uv11 ev11 => ?_)
          clear lv11 uv11
          rw [sf_ma s_w (p := 102) rfl] at ev11
          have gy := ev11
          refine sf_call4 rfl rfl rfl ?_
          refine sf_rv I_w rfl ?_
          refine sc_M_rateOf I_w (by omega) (by omega) (by rw [sf_mf s_w (p := 71) (j := 1) rfl]; omega) (fun v12 lv12 uv12 q13_0 => ?_)
          rw [sf_ma s_w (p := 72) rfl] at q13_0
          rw [sf_ma s_w (p := 79) rfl] at q13_0
          rw [sf_ma s_w (p := 80) rfl] at q13_0
          rw [sf_ma s_w (p := 84) rfl] at q13_0
          rw [sf_ma s_w (p := 85) rfl] at q13_0
          rw [sf_mf s_w (p := 71) (j := 10) rfl] at q13_0
          have gu := q13_0
          rw [gy] at gu
          refine sf_iast I_w s_w rfl (by omega) (by omega) rfl rfl (fun w14 Iw14 sw14 kw14 uw14 => ?_)
          clear kw14
          have g2 := uw14
          have g4 : (sf_a w14 117 x3.toInt.toNat).toInt = v12.toInt := by rw [uw14]; unfold upd; rw [if_pos rfl]
          have hr : (sc_rm (sc_b (sf_a w0 72) (sf_a w0 75) (sf_a w0 76) (sf_a w0 77) (sf_a w0 78) (sf_a w0 3) (sp_aa (sf_a w0 93)) (sf_f w0 71 5).toInt (sf_f w0 71 1).toInt) (sf_a w0 72) (sf_a w0 79) (sf_a w0 80) (sf_a w0 84) (sf_a w0 85) (sf_f w0 71 10).toInt (sf_a w0 107) (sf_a w0 108) (sf_a w0 102 a_d.toInt.toNat).toInt (4 * a_d.toInt).toNat) x3.toInt.toNat = v12.toInt := sc_m2 gb (by omega) gl gu
          refine sf_aload rfl ?_
          refine sf_getr Iw14 rfl rfl ?_
          refine sf_iload rfl ?_
          refine sf_iload rfl ?_
          refine sf_f1_ge (fun h15 => ?_) (fun h15 => absurd h15 (by omega))
          refine sf_aload rfl ?_
          refine sf_iload rfl ?_
          refine sf_aload rfl ?_
          refine sf_getr Iw14 rfl rfl ?_
          refine sf_iload rfl ?_
          refine sf_iald Iw14 rfl (by omega) (fun v16 lv16 uv16 ev16 => ?_)
          clear lv16 uv16
          rw [sf_ma sw14 (p := 108) rfl] at ev16
          have gl := ev16
          rw [show v5.toInt.toNat = (4 * a_d.toInt).toNat + x3.toInt.toNat by omega] at gl
          refine sf_aload rfl ?_
          refine sf_getr Iw14 rfl rfl ?_
          refine sf_iload rfl ?_
          refine sf_iald Iw14 rfl (by omega) (fun v17 lv17 uv17 ev17 => ?_)
          clear lv17 uv17
          rw [sf_ma sw14 (p := 102) rfl] at ev17
          have gy := ev17
          refine sf_call4 rfl rfl rfl ?_
          refine sf_rv Iw14 rfl ?_
          refine sc_M_quotaOf Iw14 (by omega) (by omega) (by rw [sf_mf sw14 (p := 71) (j := 1) rfl]; omega) (fun v18 lv18 uv18 => ?_)
          refine sf_iast Iw14 sw14 rfl (by omega) (by omega) rfl rfl (fun w20 Iw20 sw20 kw20 uw20 => ?_)
          have c21 := sf_ma kw20 (p := 117) rfl
          clear kw20 uw20
          refine sf_iload rfl ?_
          refine sf_f1_eq (fun h22 => ?_) (fun h22 => ?_)
          · refine sf_iconst sf_c0 (fun z23 ez23 => ?_)
            refine sf_istore (L' := [(5, .inl (.int v7)), (4, .inl (.int v5)), (0, .inl (.ref 71)), (1, .inl (.int a_d)), (3, .inl (.int x3))]) rfl ?_
            refine sf_iinc (L' := [(2, .inl (.int z23)), (5, .inl (.int v7)), (4, .inl (.int v5)), (0, .inl (.ref 71)), (1, .inl (.int a_d))]) sf_c1 rfl rfl (by omega) (fun v24 ev24 => ?_)
            refine sf_can (L' := [(0, .inl (.ref 71)), (1, .inl (.int a_d)), (2, .inl (.int z23)), (3, .inl (.int v24))]) rfl ?_
            exact i_17 w20 z23 v24 Iw20 sw20 (by omega) (by omega) (by omega) (by omega) (by first | (intro _ j hj; omega) | (intro ha j hj; rw [c21]; rw [g2]; by_cases hj2 : j = x3.toInt.toNat; (subst hj2; rw [g2] at g3; omega); (unfold upd; rw [if_neg hj2]; exact f_0 (by omega) j (by omega)))) (by exact sc_fS f_1 (n := x3.toInt.toNat) (by omega) (by omega) (by omega)) (by omega) (by omega)
          · refine sf_aload rfl ?_
            refine sf_getr Iw20 rfl rfl ?_
            refine sf_iload rfl ?_
            refine sf_iald Iw20 rfl (by omega) (fun v25 lv25 uv25 ev25 => ?_)
            rw [c21] at ev25
            have g3 := ev25
            refine sf_f1_lt (fun h26 => ?_) (fun h26 => ?_)
            · refine sf_iconst sf_c0 (fun z27 ez27 => ?_)
              refine sf_istore (L' := [(5, .inl (.int v7)), (4, .inl (.int v5)), (0, .inl (.ref 71)), (1, .inl (.int a_d)), (3, .inl (.int x3))]) rfl ?_
              refine sf_iinc (L' := [(2, .inl (.int z27)), (5, .inl (.int v7)), (4, .inl (.int v5)), (0, .inl (.ref 71)), (1, .inl (.int a_d))]) sf_c1 rfl rfl (by omega) (fun v28 ev28 => ?_)
              refine sf_can (L' := [(0, .inl (.ref 71)), (1, .inl (.int a_d)), (2, .inl (.int z27)), (3, .inl (.int v28))]) rfl ?_
              exact i_17 w20 z27 v28 Iw20 sw20 (by omega) (by omega) (by omega) (by omega) (by first | (intro _ j hj; omega) | (intro ha j hj; rw [c21]; rw [g2]; by_cases hj2 : j = x3.toInt.toNat; (subst hj2; rw [g2] at g3; omega); (unfold upd; rw [if_neg hj2]; exact f_0 (by omega) j (by omega)))) (by exact sc_fS f_1 (n := x3.toInt.toNat) (by omega) (by omega) (by omega)) (by omega) (by omega)
            · refine sf_iconst sf_c1 (fun z29 ez29 => ?_)
              refine sf_istore (L' := [(5, .inl (.int v7)), (4, .inl (.int v5)), (0, .inl (.ref 71)), (1, .inl (.int a_d)), (3, .inl (.int x3))]) rfl ?_
              refine sf_iinc (L' := [(2, .inl (.int z29)), (5, .inl (.int v7)), (4, .inl (.int v5)), (0, .inl (.ref 71)), (1, .inl (.int a_d))]) sf_c1 rfl rfl (by omega) (fun v30 ev30 => ?_)
              refine sf_can (L' := [(0, .inl (.ref 71)), (1, .inl (.int a_d)), (2, .inl (.int z29)), (3, .inl (.int v30))]) rfl ?_
              exact i_17 w20 z29 v30 Iw20 sw20 (by omega) (by omega) (by omega) (by omega) (by first | (intro _ j hj; omega) | (intro ha j hj; rw [c21]; rw [g2]; by_cases hj2 : j = x3.toInt.toNat; (subst hj2; rw [g2] at g3; omega); (unfold upd; rw [if_neg hj2]; exact f_0 (by omega) j (by omega)))) (by exact sc_fS f_1 (n := x3.toInt.toNat) (by omega) (by omega) (by omega)) (by omega) (by omega)
        · refine sf_iconst sf_cm1 (fun z31 ez31 => ?_)
          refine sf_iast I_w s_w rfl (by omega) (by omega) rfl rfl (fun w32 Iw32 sw32 kw32 uw32 => ?_)
          clear kw32
          have g2 := uw32
          have g4 : (sf_a w32 117 x3.toInt.toNat).toInt = z31.toInt := by rw [uw32]; unfold upd; rw [if_pos rfl]
          have hr : (sc_rm (sc_b (sf_a w0 72) (sf_a w0 75) (sf_a w0 76) (sf_a w0 77) (sf_a w0 78) (sf_a w0 3) (sp_aa (sf_a w0 93)) (sf_f w0 71 5).toInt (sf_f w0 71 1).toInt) (sf_a w0 72) (sf_a w0 79) (sf_a w0 80) (sf_a w0 84) (sf_a w0 85) (sf_f w0 71 10).toInt (sf_a w0 107) (sf_a w0 108) (sf_a w0 102 a_d.toInt.toNat).toInt (4 * a_d.toInt).toNat) x3.toInt.toNat = z31.toInt := (sc_m1 gb (by omega)).trans (by omega)
          refine sf_aload rfl ?_
          refine sf_getr Iw32 rfl rfl ?_
          refine sf_iload rfl ?_
          refine sf_iload rfl ?_
          refine sf_f1_ge (fun h33 => absurd h33 (by omega)) (fun h33 => ?_)
          refine sf_iconst sf_cm1 (fun z34 ez34 => ?_)
          refine sf_iast Iw32 sw32 rfl (by omega) (by omega) rfl rfl (fun w35 Iw35 sw35 kw35 uw35 => ?_)
          have c36 := sf_ma kw35 (p := 117) rfl
          clear kw35 uw35
          refine sf_iload rfl ?_
          refine sf_f1_eq (fun h37 => ?_) (fun h37 => ?_)
          · refine sf_iconst sf_c0 (fun z38 ez38 => ?_)
            refine sf_istore (L' := [(5, .inl (.int v7)), (4, .inl (.int v5)), (0, .inl (.ref 71)), (1, .inl (.int a_d)), (3, .inl (.int x3))]) rfl ?_
            refine sf_iinc (L' := [(2, .inl (.int z38)), (5, .inl (.int v7)), (4, .inl (.int v5)), (0, .inl (.ref 71)), (1, .inl (.int a_d))]) sf_c1 rfl rfl (by omega) (fun v39 ev39 => ?_)
            refine sf_can (L' := [(0, .inl (.ref 71)), (1, .inl (.int a_d)), (2, .inl (.int z38)), (3, .inl (.int v39))]) rfl ?_
            exact i_17 w35 z38 v39 Iw35 sw35 (by omega) (by omega) (by omega) (by omega) (by first | (intro _ j hj; omega) | (intro ha j hj; rw [c36]; rw [g2]; by_cases hj2 : j = x3.toInt.toNat; (subst hj2; rw [g2] at g3; omega); (unfold upd; rw [if_neg hj2]; exact f_0 (by omega) j (by omega)))) (by exact sc_fS f_1 (n := x3.toInt.toNat) (by omega) (by omega) (by omega)) (by omega) (by omega)
          · refine sf_aload rfl ?_
            refine sf_getr Iw35 rfl rfl ?_
            refine sf_iload rfl ?_
            refine sf_iald Iw35 rfl (by omega) (fun v40 lv40 uv40 ev40 => ?_)
            rw [c36] at ev40
            have g3 := ev40
            refine sf_f1_lt (fun h41 => ?_) (fun h41 => ?_)
            · refine sf_iconst sf_c0 (fun z42 ez42 => ?_)
              refine sf_istore (L' := [(5, .inl (.int v7)), (4, .inl (.int v5)), (0, .inl (.ref 71)), (1, .inl (.int a_d)), (3, .inl (.int x3))]) rfl ?_
              refine sf_iinc (L' := [(2, .inl (.int z42)), (5, .inl (.int v7)), (4, .inl (.int v5)), (0, .inl (.ref 71)), (1, .inl (.int a_d))]) sf_c1 rfl rfl (by omega) (fun v43 ev43 => ?_)
              refine sf_can (L' := [(0, .inl (.ref 71)), (1, .inl (.int a_d)), (2, .inl (.int z42)), (3, .inl (.int v43))]) rfl ?_
              exact i_17 w35 z42 v43 Iw35 sw35 (by omega) (by omega) (by omega) (by omega) (by first | (intro _ j hj; omega) | (intro ha j hj; rw [c36]; rw [g2]; by_cases hj2 : j = x3.toInt.toNat; (subst hj2; rw [g2] at g3; omega); (unfold upd; rw [if_neg hj2]; exact f_0 (by omega) j (by omega)))) (by exact sc_fS f_1 (n := x3.toInt.toNat) (by omega) (by omega) (by omega)) (by omega) (by omega)
            · refine sf_iconst sf_c1 (fun z44 ez44 => ?_)
              refine sf_istore (L' := [(5, .inl (.int v7)), (4, .inl (.int v5)), (0, .inl (.ref 71)), (1, .inl (.int a_d)), (3, .inl (.int x3))]) rfl ?_
              refine sf_iinc (L' := [(2, .inl (.int z44)), (5, .inl (.int v7)), (4, .inl (.int v5)), (0, .inl (.ref 71)), (1, .inl (.int a_d))]) sf_c1 rfl rfl (by omega) (fun v45 ev45 => ?_)
              refine sf_can (L' := [(0, .inl (.ref 71)), (1, .inl (.int a_d)), (2, .inl (.int z44)), (3, .inl (.int v45))]) rfl ?_
              exact i_17 w35 z44 v45 Iw35 sw35 (by omega) (by omega) (by omega) (by omega) (by first | (intro _ j hj; omega) | (intro ha j hj; rw [c36]; rw [g2]; by_cases hj2 : j = x3.toInt.toNat; (subst hj2; rw [g2] at g3; omega); (unfold upd; rw [if_neg hj2]; exact f_0 (by omega) j (by omega)))) (by exact sc_fS f_1 (n := x3.toInt.toNat) (by omega) (by omega) (by omega)) (by omega) (by omega)
  have hl1 := hl 1000000000000
  have i_17 := hl1
  clear hl hl1
  refine sf_sp (L := [(0, .inl (.ref 71)), (1, .inl (.int a_d))]) rfl rfl ?_
  generalize ku_M_find rt xt 1000000000000 = K at i_17 ⊢
  refine sf_aload rfl ?_
  refine sf_getr hI0 rfl rfl ?_
  refine sf_iload rfl ?_
  refine sf_iald hI0 rfl (by omega) (fun v46 lv46 uv46 ev46 => ?_)
  refine sf_f1_le (fun h47 => ?_) (fun h47 => ?_)
  · refine sf_iconst sf_c0 (fun z48 ez48 => ?_)
    refine sf_istore (L' := [(0, .inl (.ref 71)), (1, .inl (.int a_d))]) rfl ?_
    refine sf_iconst sf_c0 (fun z49 ez49 => ?_)
    refine sf_istore (L' := [(2, .inl (.int z48)), (0, .inl (.ref 71)), (1, .inl (.int a_d))]) rfl ?_
    refine sf_can (L' := [(0, .inl (.ref 71)), (1, .inl (.int a_d)), (2, .inl (.int z48)), (3, .inl (.int z49))]) rfl ?_
    exact i_17 w0 z48 z49 hI0 hs0 (by omega) (by omega) (by omega) (by omega) (by first | (intro _ j hj; omega) | (intro ha j hj; rw [g2]; by_cases hj2 : j = x3.toInt.toNat; (subst hj2; rw [g2] at g3; omega); (unfold upd; rw [if_neg hj2]; exact f_0 (by omega) j (by omega)))) (by exact ⟨fun h9 => ⟨by omega, fun j hj => absurd hj (by omega)⟩, fun h9 => by have h8 := h9.1; omega⟩) (by omega) (by omega)
  · refine sf_iconst sf_c1 (fun z50 ez50 => ?_)
    refine sf_istore (L' := [(0, .inl (.ref 71)), (1, .inl (.int a_d))]) rfl ?_
    refine sf_iconst sf_c0 (fun z51 ez51 => ?_)
    refine sf_istore (L' := [(2, .inl (.int z50)), (0, .inl (.ref 71)), (1, .inl (.int a_d))]) rfl ?_
    refine sf_can (L' := [(0, .inl (.ref 71)), (1, .inl (.int a_d)), (2, .inl (.int z50)), (3, .inl (.int z51))]) rfl ?_
    exact i_17 w0 z50 z51 hI0 hs0 (by omega) (by omega) (by omega) (by omega) (by first | (intro _ j hj; omega) | (intro ha j hj; rw [g2]; by_cases hj2 : j = x3.toInt.toNat; (subst hj2; rw [g2] at g3; omega); (unfold upd; rw [if_neg hj2]; exact f_0 (by omega) j (by omega)))) (by exact ⟨fun h9 => ⟨by omega, fun j hj => absurd hj (by omega)⟩, fun h9 => by have h8 := h9.1; omega⟩) (by omega) (by omega)
