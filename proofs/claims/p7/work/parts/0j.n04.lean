def sm_M_amend : List Nat := [71, 91, 92, 110, 111, 112, 114, 115, 116, 117, 118, 119, 120, 122, 124, 8100, 8166]
set_option maxRecDepth 100000 in
set_option maxHeartbeats 4000000 in
theorem sc_M_amend {w0 : wq_W} (hI0 : sf_I w0) {rt : Option wq_V → wq_W → Prop} {xt : Nat → wq_W → Prop} {a_d : Int32} {a_l : Int32} {a_field : Int32} {a_v : Int32}  (hR : ∀ (r : Int64) (w : wq_W), sf_I w → sf_m sm_M_amend w0 w → rt (some (.inl (.long r))) w) : ks_M_amend [.inl (.ref 71), .inl (.int a_d), .inl (.int a_l), .inl (.int a_field), .inl (.int a_v)] w0 rt xt := by
  have hs0 : sf_m sm_M_amend w0 w0 := sf_m0
  have hl : ∀ n : Nat, (∀ (w : wq_W) (x5 : Int64) (x7 : Int32), (sf_I w) → (sf_m sm_M_amend w0 w) → (0 ≤ x7.toInt) → (x7.toInt ≤ 4) → (0 ≤ a_d.toInt) → (a_d.toInt ≤ 11) → (∀ k : Nat, (k : Int) < (sf_a w0 104 a_d.toInt.toNat).toInt → 0 ≤ (sf_a w 117 k).toInt) → (1000 - x7.toInt < (n : Int)) → ku_M_amend rt xt n 95 [(0, .inl (.ref 71)), (1, .inl (.int a_d)), (5, .inl (.long x5)), (7, .inl (.int x7))] [] w 0 0) ∧ (∀ (w : wq_W) (x5 : Int64) (x7 : Int64) (x9 : Int32), (sf_I w) → (sf_m sm_M_amend w0 w) → (0 ≤ x9.toInt) → (x9.toInt ≤ 48) → (0 ≤ a_d.toInt) → (a_d.toInt ≤ 11) → (48 - x9.toInt < (n : Int)) → ku_M_amend rt xt n 297 [(0, .inl (.ref 71)), (1, .inl (.int a_d)), (5, .inl (.long x5)), (7, .inl (.long x7)), (9, .inl (.int x9))] [] w 0 0) := by
    intro n
    induction n with
    | zero =>
      refine ⟨?_, ?_⟩
      · intros; omega
      · intros; omega
    | succ n ih =>
      obtain ⟨i_95, i_297⟩ := ih
      refine ⟨?_, ?_⟩
      · intro w x5 x7 I_w s_w l_x7 u_x7 f_0 f_1 f_2 hm
        show kh_M_amend_95 rt xt (ku_M_amend rt xt n) [(0, .inl (.ref 71)), (1, .inl (.int a_d)), (5, .inl (.long x5)), (7, .inl (.int x7))] [] w 0 0
        generalize ku_M_amend rt xt n = K at i_95 i_297 ⊢
        refine sf_iload rfl ?_
        refine sf_aload rfl ?_
        refine sf_getr I_w rfl rfl ?_
        refine sf_iload rfl ?_
        refine sf_iald I_w rfl (by omega) (fun v1 lv1 uv1 ev1 => ?_)
        rw [sf_ma s_w (p := 104) rfl] at ev1
        refine sf_f2_ge (fun h2 => ?_) (fun h2 => ?_)
        · refine sf_aload rfl ?_
          refine sf_iload rfl ?_
          refine sf_call2 rfl rfl rfl ?_
          refine sf_rv I_w rfl ?_
          refine sc_M_workOut I_w (by omega) (by omega) (by rw [sf_ma s_w (p := 104) rfl]; exact f_2) (fun v3 w4 Iw4 tw4 => ?_)
          have s6 := sf_mt s_w tw4 rfl
          have c7 := sf_mf tw4 (p := 71) (j := 0) rfl
          have c8 := sf_ma tw4 (p := 117) rfl
          refine sf_lstore (L' := [(0, .inl (.ref 71)), (1, .inl (.int a_d)), (5, .inl (.long x5))]) rfl ?_
          refine sf_aload rfl ?_
          refine sf_iload rfl ?_
          refine sf_call2 rfl rfl rfl ?_
          refine sf_rv Iw4 rfl ?_
          refine sc_M_book Iw4 (by omega) (by omega) (fun w9 Iw9 tw9 => ?_)
          have s11 := sf_mt s6 tw9 rfl
          have c12 := sf_mf tw9 (p := 71) (j := 0) rfl
          have c13 := sf_ma tw9 (p := 117) rfl
          refine sf_iconst sf_c4 (fun z14 ez14 => ?_)
          refine sf_iload rfl ?_
          refine sf_imull (n := 4) (by omega) (by omega) (fun v15 ev15 => ?_)
          refine sf_istore (L' := [(7, .inl (.long v3)), (0, .inl (.ref 71)), (1, .inl (.int a_d)), (5, .inl (.long x5))]) rfl ?_
          refine sf_can (L' := [(0, .inl (.ref 71)), (1, .inl (.int a_d)), (5, .inl (.long x5)), (7, .inl (.long v3)), (9, .inl (.int v15))]) rfl ?_
          exact i_297 w9 x5 v3 v15 Iw9 s11 (by omega) (by omega) (by omega) (by omega) (by omega)
        · refine sf_iconst sf_c4 (fun z16 ez16 => ?_)
          refine sf_iload rfl ?_
          refine sf_imull (n := 4) (by omega) (by omega) (fun v17 ev17 => ?_)
          refine sf_iload rfl ?_
          refine sf_iadd (by omega) (fun v18 ev18 => ?_)
          refine sf_istore (L' := [(0, .inl (.ref 71)), (1, .inl (.int a_d)), (5, .inl (.long x5)), (7, .inl (.int x7))]) rfl ?_
          refine sf_lload rfl ?_
          refine sf_aload rfl ?_
          refine sf_getr I_w rfl rfl ?_
          refine sf_iload rfl ?_
          refine sf_lald I_w rfl (by omega) (fun v19 ev19 => ?_)
          clear ev19
          refine sf_l2 (fun v20 => ?_)
          refine sf_lstore (L' := [(8, .inl (.int v18)), (0, .inl (.ref 71)), (1, .inl (.int a_d)), (7, .inl (.int x7))]) rfl ?_
          refine sf_aload rfl ?_
          refine sf_aload rfl ?_
          refine sf_getr I_w rfl rfl ?_
          refine sf_iload rfl ?_
          refine sf_zald I_w rfl (by omega) (fun v21 lv21 uv21 ev21 => ?_)
          clear ev21
          refine sf_f1_eq (fun h22 => ?_) (fun h22 => ?_)
          · refine sf_aload rfl ?_
            refine sf_getl I_w rfl rfl (fun v23 => ?_)
            refine sf_aload rfl ?_
            refine sf_getr I_w rfl rfl ?_
            refine sf_iload rfl ?_
            refine sf_lald I_w rfl (by omega) (fun v24 ev24 => ?_)
            clear ev24
            refine sf_l2 (fun v25 => ?_)
            refine sf_putl I_w s_w rfl rfl rfl rfl rfl (fun w26 Iw26 sw26 kw26 uw26 => ?_)
            have c27 := sf_mf kw26 (p := 71) (j := 0) rfl
            have c28 := sf_ma kw26 (p := 117) rfl
            clear kw26 uw26
            refine sf_aload rfl ?_
            refine sf_getr Iw26 rfl rfl ?_
            refine sf_iload rfl ?_
            refine sf_iald Iw26 rfl (by omega) (fun v29 lv29 uv29 ev29 => ?_)
            refine sf_aload rfl ?_
            refine sf_getr Iw26 rfl rfl ?_
            refine sf_iload rfl ?_
            refine sf_iald Iw26 rfl (by omega) (fun v30 lv30 uv30 ev30 => ?_)
            refine sf_f2_eq (fun h31 => ?_) (fun h31 => ?_)
            · refine sf_aload rfl ?_
              refine sf_getr Iw26 rfl rfl ?_
              refine sf_iload rfl ?_
              refine sf_iald Iw26 rfl (by omega) (fun v32 lv32 uv32 ev32 => ?_)
              clear lv32 uv32
              clear ev32
              refine sf_aload rfl ?_
              refine sf_getr Iw26 rfl rfl ?_
              refine sf_iconst sf_c3 (fun z33 ez33 => ?_)
              refine sf_iload rfl ?_
              refine sf_imull (n := 3) (by omega) (by omega) (fun v34 ev34 => ?_)
              refine sf_iald Iw26 rfl (by omega) (fun v35 lv35 uv35 ev35 => ?_)
              refine sf_f2_ge (fun h36 => ?_) (fun h36 => ?_)
              · refine sf_aload rfl ?_
                refine sf_getr Iw26 rfl rfl ?_
                refine sf_iconst sf_c3 (fun z37 ez37 => ?_)
                refine sf_iload rfl ?_
                refine sf_imull (n := 3) (by omega) (by omega) (fun v38 ev38 => ?_)
                refine sf_iald Iw26 rfl (by omega) (fun v39 lv39 uv39 ev39 => ?_)
                refine sf_istore (L' := [(5, .inl (.long v20)), (8, .inl (.int v18)), (0, .inl (.ref 71)), (1, .inl (.int a_d)), (7, .inl (.int x7))]) rfl ?_
                refine sf_aload rfl ?_
                refine sf_getr Iw26 rfl rfl ?_
                refine sf_iload rfl ?_
                refine sf_iald Iw26 rfl (by omega) (fun v40 lv40 uv40 ev40 => ?_)
                refine sf_f1_lt (fun h41 => ?_) (fun h41 => ?_)
                · refine sf_aload rfl ?_
                  refine sf_getr Iw26 rfl rfl ?_
                  refine sf_iload rfl ?_
                  refine sf_iload rfl ?_
                  refine sf_iast Iw26 sw26 rfl (by omega) (sf_bd _) rfl rfl (fun w42 Iw42 sw42 kw42 uw42 => ?_)
                  have c43 := sf_mf kw42 (p := 71) (j := 0) rfl
                  have c44 := sf_ma kw42 (p := 117) rfl
                  clear kw42 uw42
                  refine sf_iinc (L' := [(9, .inl (.int v39)), (5, .inl (.long v20)), (8, .inl (.int v18)), (0, .inl (.ref 71)), (1, .inl (.int a_d))]) sf_c1 rfl rfl (by omega) (fun v45 ev45 => ?_)
                  refine sf_can (L' := [(0, .inl (.ref 71)), (1, .inl (.int a_d)), (5, .inl (.long v20)), (7, .inl (.int v45))]) rfl ?_
                  exact i_95 w42 v20 v45 Iw42 sw42 (by omega) (by omega) (by omega) (by omega) (by rw [c44, c28]; first | exact f_2 | exact r2 (by omega)) (by omega)
                · refine sf_aload rfl ?_
                  refine sf_getr Iw26 rfl rfl ?_
                  refine sf_aload rfl ?_
                  refine sf_getr Iw26 rfl rfl ?_
                  refine sf_iload rfl ?_
                  refine sf_iald Iw26 rfl (by omega) (fun v46 lv46 uv46 ev46 => ?_)
                  refine sf_aload rfl ?_
                  refine sf_getr Iw26 rfl rfl ?_
                  refine sf_aload rfl ?_
                  refine sf_getr Iw26 rfl rfl ?_
                  refine sf_iload rfl ?_
                  refine sf_iald Iw26 rfl (by omega) (fun v47 lv47 uv47 ev47 => ?_)
                  refine sf_iald Iw26 rfl (by omega) (fun v48 lv48 uv48 ev48 => ?_)
                  clear lv48 uv48
                  clear ev48
                  refine sf_aload rfl ?_
                  refine sf_getr Iw26 rfl rfl ?_
                  refine sf_iload rfl ?_
                  refine sf_iald Iw26 rfl (by omega) (fun v49 lv49 uv49 ev49 => ?_)
                  clear lv49 uv49
                  clear ev49
                  refine sf_i2 (fun v50 => ?_)
                  refine sf_iload rfl ?_
                  refine sf_i2 (fun v51 => ?_)
                  refine sf_iast Iw26 sw26 rfl (by omega) (sf_bd _) rfl rfl (fun w52 Iw52 sw52 kw52 uw52 => ?_)
                  have c53 := sf_mf kw52 (p := 71) (j := 0) rfl
                  have c54 := sf_ma kw52 (p := 117) rfl
                  clear kw52 uw52
                  refine sf_aload rfl ?_
                  refine sf_getr Iw52 rfl rfl ?_
                  refine sf_iload rfl ?_
                  refine sf_iload rfl ?_
                  refine sf_iast Iw52 sw52 rfl (by omega) (sf_bd _) rfl rfl (fun w55 Iw55 sw55 kw55 uw55 => ?_)
                  have c56 := sf_mf kw55 (p := 71) (j := 0) rfl
                  have c57 := sf_ma kw55 (p := 117) rfl
                  clear kw55 uw55
                  refine sf_iinc (L' := [(9, .inl (.int v39)), (5, .inl (.long v20)), (8, .inl (.int v18)), (0, .inl (.ref 71)), (1, .inl (.int a_d))]) sf_c1 rfl rfl (by omega) (fun v58 ev58 => ?_)
                  refine sf_can (L' := [(0, .inl (.ref 71)), (1, .inl (.int a_d)), (5, .inl (.long v20)), (7, .inl (.int v58))]) rfl ?_
                  exact i_95 w55 v20 v58 Iw55 sw55 (by omega) (by omega) (by omega) (by omega) (by rw [c57, c54, c28]; first | exact f_2 | exact r2 (by omega)) (by omega)
              · refine sf_aload rfl ?_
                refine sf_getr Iw26 rfl rfl ?_
                refine sf_iload rfl ?_
                refine sf_iald Iw26 rfl (by omega) (fun v59 lv59 uv59 ev59 => ?_)
                clear lv59 uv59
                clear ev59
                refine sf_istore (L' := [(5, .inl (.long v20)), (8, .inl (.int v18)), (0, .inl (.ref 71)), (1, .inl (.int a_d)), (7, .inl (.int x7))]) rfl ?_
                refine sf_aload rfl ?_
                refine sf_getr Iw26 rfl rfl ?_
                refine sf_iload rfl ?_
                refine sf_iald Iw26 rfl (by omega) (fun v60 lv60 uv60 ev60 => ?_)
                refine sf_f1_lt (fun h61 => ?_) (fun h61 => ?_)
                · refine sf_aload rfl ?_
                  refine sf_getr Iw26 rfl rfl ?_
                  refine sf_iload rfl ?_
                  refine sf_iload rfl ?_
                  refine sf_iast Iw26 sw26 rfl (by omega) (sf_bd _) rfl rfl (fun w62 Iw62 sw62 kw62 uw62 => ?_)
                  have c63 := sf_mf kw62 (p := 71) (j := 0) rfl
                  have c64 := sf_ma kw62 (p := 117) rfl
                  clear kw62 uw62
                  refine sf_iinc (L' := [(9, .inl (.int v59)), (5, .inl (.long v20)), (8, .inl (.int v18)), (0, .inl (.ref 71)), (1, .inl (.int a_d))]) sf_c1 rfl rfl (by omega) (fun v65 ev65 => ?_)
                  refine sf_can (L' := [(0, .inl (.ref 71)), (1, .inl (.int a_d)), (5, .inl (.long v20)), (7, .inl (.int v65))]) rfl ?_
                  exact i_95 w62 v20 v65 Iw62 sw62 (by omega) (by omega) (by omega) (by omega) (by rw [c64, c28]; first | exact f_2 | exact r2 (by omega)) (by omega)
                · refine sf_aload rfl ?_
                  refine sf_getr Iw26 rfl rfl ?_
                  refine sf_aload rfl ?_
                  refine sf_getr Iw26 rfl rfl ?_
                  refine sf_iload rfl ?_
                  refine sf_iald Iw26 rfl (by omega) (fun v66 lv66 uv66 ev66 => ?_)
                  refine sf_aload rfl ?_
                  refine sf_getr Iw26 rfl rfl ?_
                  refine sf_aload rfl ?_
                  refine sf_getr Iw26 rfl rfl ?_
                  refine sf_iload rfl ?_
                  refine sf_iald Iw26 rfl (by omega) (fun v67 lv67 uv67 ev67 => ?_)
                  refine sf_iald Iw26 rfl (by omega) (fun v68 lv68 uv68 ev68 => ?_)
                  clear lv68 uv68
                  clear ev68
                  refine sf_aload rfl ?_
                  refine sf_getr Iw26 rfl rfl ?_
                  refine sf_iload rfl ?_
                  refine sf_iald Iw26 rfl (by omega) (fun v69 lv69 uv69 ev69 => ?_)
                  clear lv69 uv69
                  clear ev69
                  refine sf_i2 (fun v70 => ?_)
                  refine sf_iload rfl ?_
                  refine sf_i2 (fun v71 => ?_)
                  refine sf_iast Iw26 sw26 rfl (by omega) (sf_bd _) rfl rfl (fun w72 Iw72 sw72 kw72 uw72 => ?_)
                  have c73 := sf_mf kw72 (p := 71) (j := 0) rfl
                  have c74 := sf_ma kw72 (p := 117) rfl
                  clear kw72 uw72
                  refine sf_aload rfl ?_
                  refine sf_getr Iw72 rfl rfl ?_
                  refine sf_iload rfl ?_
                  refine sf_iload rfl ?_
                  refine sf_iast Iw72 sw72 rfl (by omega) (sf_bd _) rfl rfl (fun w75 Iw75 sw75 kw75 uw75 => ?_)
                  have c76 := sf_mf kw75 (p := 71) (j := 0) rfl
                  have c77 := sf_ma kw75 (p := 117) rfl
                  clear kw75 uw75
                  refine sf_iinc (L' := [(9, .inl (.int v59)), (5, .inl (.long v20)), (8, .inl (.int v18)), (0, .inl (.ref 71)), (1, .inl (.int a_d))]) sf_c1 rfl rfl (by omega) (fun v78 ev78 => ?_)
                  refine sf_can (L' := [(0, .inl (.ref 71)), (1, .inl (.int a_d)), (5, .inl (.long v20)), (7, .inl (.int v78))]) rfl ?_
                  exact i_95 w75 v20 v78 Iw75 sw75 (by omega) (by omega) (by omega) (by omega) (by rw [c77, c74, c28]; first | exact f_2 | exact r2 (by omega)) (by omega)
            · refine sf_iconst sf_c0 (fun z79 ez79 => ?_)
              refine sf_istore (L' := [(5, .inl (.long v20)), (8, .inl (.int v18)), (0, .inl (.ref 71)), (1, .inl (.int a_d)), (7, .inl (.int x7))]) rfl ?_
              refine sf_aload rfl ?_
              refine sf_getr Iw26 rfl rfl ?_
              refine sf_iload rfl ?_
              refine sf_iald Iw26 rfl (by omega) (fun v80 lv80 uv80 ev80 => ?_)
              refine sf_f1_lt (fun h81 => ?_) (fun h81 => ?_)
              · refine sf_aload rfl ?_
                refine sf_getr Iw26 rfl rfl ?_
                refine sf_iload rfl ?_
                refine sf_iload rfl ?_
                refine sf_iast Iw26 sw26 rfl (by omega) (sf_bd _) rfl rfl (fun w82 Iw82 sw82 kw82 uw82 => ?_)
                have c83 := sf_mf kw82 (p := 71) (j := 0) rfl
                have c84 := sf_ma kw82 (p := 117) rfl
                clear kw82 uw82
                refine sf_iinc (L' := [(9, .inl (.int z79)), (5, .inl (.long v20)), (8, .inl (.int v18)), (0, .inl (.ref 71)), (1, .inl (.int a_d))]) sf_c1 rfl rfl (by omega) (fun v85 ev85 => ?_)
                refine sf_can (L' := [(0, .inl (.ref 71)), (1, .inl (.int a_d)), (5, .inl (.long v20)), (7, .inl (.int v85))]) rfl ?_
                exact i_95 w82 v20 v85 Iw82 sw82 (by omega) (by omega) (by omega) (by omega) (by rw [c84, c28]; first | exact f_2 | exact r2 (by omega)) (by omega)
              · refine sf_aload rfl ?_
                refine sf_getr Iw26 rfl rfl ?_
                refine sf_aload rfl ?_
                refine sf_getr Iw26 rfl rfl ?_
                refine sf_iload rfl ?_
                refine sf_iald Iw26 rfl (by omega) (fun v86 lv86 uv86 ev86 => ?_)
                refine sf_aload rfl ?_
                refine sf_getr Iw26 rfl rfl ?_
                refine sf_aload rfl ?_
                refine sf_getr Iw26 rfl rfl ?_
                refine sf_iload rfl ?_
                refine sf_iald Iw26 rfl (by omega) (fun v87 lv87 uv87 ev87 => ?_)
                refine sf_iald Iw26 rfl (by omega) (fun v88 lv88 uv88 ev88 => ?_)
                clear lv88 uv88
                clear ev88
                refine sf_aload rfl ?_
                refine sf_getr Iw26 rfl rfl ?_
                refine sf_iload rfl ?_
                refine sf_iald Iw26 rfl (by omega) (fun v89 lv89 uv89 ev89 => ?_)
                clear lv89 uv89
                clear ev89
                refine sf_i2 (fun v90 => ?_)
                refine sf_iload rfl ?_
                refine sf_i2 (fun v91 => ?_)
                refine sf_iast Iw26 sw26 rfl (by omega) (sf_bd _) rfl rfl (fun w92 Iw92 sw92 kw92 uw92 => ?_)
                have c93 := sf_mf kw92 (p := 71) (j := 0) rfl
                have c94 := sf_ma kw92 (p := 117) rfl
                clear kw92 uw92
                refine sf_aload rfl ?_
                refine sf_getr Iw92 rfl rfl ?_
                refine sf_iload rfl ?_
                refine sf_iload rfl ?_
                refine sf_iast Iw92 sw92 rfl (by omega) (sf_bd _) rfl rfl (fun w95 Iw95 sw95 kw95 uw95 => ?_)
                have c96 := sf_mf kw95 (p := 71) (j := 0) rfl
                have c97 := sf_ma kw95 (p := 117) rfl
                clear kw95 uw95
                refine sf_iinc (L' := [(9, .inl (.int z79)), (5, .inl (.long v20)), (8, .inl (.int v18)), (0, .inl (.ref 71)), (1, .inl (.int a_d))]) sf_c1 rfl rfl (by omega) (fun v98 ev98 => ?_)
                refine sf_can (L' := [(0, .inl (.ref 71)), (1, .inl (.int a_d)), (5, .inl (.long v20)), (7, .inl (.int v98))]) rfl ?_
                exact i_95 w95 v20 v98 Iw95 sw95 (by omega) (by omega) (by omega) (by omega) (by rw [c97, c94, c28]; first | exact f_2 | exact r2 (by omega)) (by omega)
          · refine sf_aload rfl ?_
            refine sf_getl I_w rfl rfl (fun v99 => ?_)
            refine sf_putl I_w s_w rfl rfl rfl rfl rfl (fun w100 Iw100 sw100 kw100 uw100 => ?_)
            have c101 := sf_mf kw100 (p := 71) (j := 0) rfl
            have c102 := sf_ma kw100 (p := 117) rfl
            clear kw100 uw100
            refine sf_aload rfl ?_
            refine sf_getr Iw100 rfl rfl ?_
            refine sf_iload rfl ?_
            refine sf_iald Iw100 rfl (by omega) (fun v103 lv103 uv103 ev103 => ?_)
            refine sf_aload rfl ?_
            refine sf_getr Iw100 rfl rfl ?_
            refine sf_iload rfl ?_
            refine sf_iald Iw100 rfl (by omega) (fun v104 lv104 uv104 ev104 => ?_)
            refine sf_f2_eq (fun h105 => ?_) (fun h105 => ?_)
            · refine sf_aload rfl ?_
              refine sf_getr Iw100 rfl rfl ?_
              refine sf_iload rfl ?_
              refine sf_iald Iw100 rfl (by omega) (fun v106 lv106 uv106 ev106 => ?_)
              clear lv106 uv106
              clear ev106
              refine sf_aload rfl ?_
              refine sf_getr Iw100 rfl rfl ?_
              refine sf_iconst sf_c3 (fun z107 ez107 => ?_)
              refine sf_iload rfl ?_
              refine sf_imull (n := 3) (by omega) (by omega) (fun v108 ev108 => ?_)
              refine sf_iald Iw100 rfl (by omega) (fun v109 lv109 uv109 ev109 => ?_)
              refine sf_f2_ge (fun h110 => ?_) (fun h110 => ?_)
              · refine sf_aload rfl ?_
                refine sf_getr Iw100 rfl rfl ?_
                refine sf_iconst sf_c3 (fun z111 ez111 => ?_)
                refine sf_iload rfl ?_
                refine sf_imull (n := 3) (by omega) (by omega) (fun v112 ev112 => ?_)
                refine sf_iald Iw100 rfl (by omega) (fun v113 lv113 uv113 ev113 => ?_)
                refine sf_istore (L' := [(5, .inl (.long v20)), (8, .inl (.int v18)), (0, .inl (.ref 71)), (1, .inl (.int a_d)), (7, .inl (.int x7))]) rfl ?_
                refine sf_aload rfl ?_
                refine sf_getr Iw100 rfl rfl ?_
                refine sf_iload rfl ?_
                refine sf_iald Iw100 rfl (by omega) (fun v114 lv114 uv114 ev114 => ?_)
                refine sf_f1_lt (fun h115 => ?_) (fun h115 => ?_)
                · refine sf_aload rfl ?_
                  refine sf_getr Iw100 rfl rfl ?_
                  refine sf_iload rfl ?_
                  refine sf_iload rfl ?_
                  refine sf_iast Iw100 sw100 rfl (by omega) (sf_bd _) rfl rfl (fun w116 Iw116 sw116 kw116 uw116 => ?_)
                  have c117 := sf_mf kw116 (p := 71) (j := 0) rfl
                  have c118 := sf_ma kw116 (p := 117) rfl
                  clear kw116 uw116
                  refine sf_iinc (L' := [(9, .inl (.int v113)), (5, .inl (.long v20)), (8, .inl (.int v18)), (0, .inl (.ref 71)), (1, .inl (.int a_d))]) sf_c1 rfl rfl (by omega) (fun v119 ev119 => ?_)
                  refine sf_can (L' := [(0, .inl (.ref 71)), (1, .inl (.int a_d)), (5, .inl (.long v20)), (7, .inl (.int v119))]) rfl ?_
                  exact i_95 w116 v20 v119 Iw116 sw116 (by omega) (by omega) (by omega) (by omega) (by rw [c118, c102]; first | exact f_2 | exact r2 (by omega)) (by omega)
                · refine sf_aload rfl ?_
                  refine sf_getr Iw100 rfl rfl ?_
                  refine sf_aload rfl ?_
                  refine sf_getr Iw100 rfl rfl ?_
                  refine sf_iload rfl ?_
                  refine sf_iald Iw100 rfl (by omega) (fun v120 lv120 uv120 ev120 => ?_)
                  refine sf_aload rfl ?_
                  refine sf_getr Iw100 rfl rfl ?_
                  refine sf_aload rfl ?_
                  refine sf_getr Iw100 rfl rfl ?_
                  refine sf_iload rfl ?_
                  refine sf_iald Iw100 rfl (by omega) (fun v121 lv121 uv121 ev121 => ?_)
                  refine sf_iald Iw100 rfl (by omega) (fun v122 lv122 uv122 ev122 => ?_)
                  clear lv122 uv122
                  clear ev122
                  refine sf_aload rfl ?_
                  refine sf_getr Iw100 rfl rfl ?_
                  refine sf_iload rfl ?_
                  refine sf_iald Iw100 rfl (by omega) (fun v123 lv123 uv123 ev123 => ?_)
                  clear lv123 uv123
                  clear ev123
                  refine sf_i2 (fun v124 => ?_)
                  refine sf_iload rfl ?_
                  refine sf_i2 (fun v125 => ?_)
                  refine sf_iast Iw100 sw100 rfl (by omega) (sf_bd _) rfl rfl (fun w126 Iw126 sw126 kw126 uw126 => ?_)
                  have c127 := sf_mf kw126 (p := 71) (j := 0) rfl
                  have c128 := sf_ma kw126 (p := 117) rfl
                  clear kw126 uw126
                  refine sf_aload rfl ?_
                  refine sf_getr Iw126 rfl rfl ?_
                  refine sf_iload rfl ?_
                  refine sf_iload rfl ?_
                  refine sf_iast Iw126 sw126 rfl (by omega) (sf_bd _) rfl rfl (fun w129 Iw129 sw129 kw129 uw129 => ?_)
                  have c130 := sf_mf kw129 (p := 71) (j := 0) rfl
                  have c131 := sf_ma kw129 (p := 117) rfl
                  clear kw129 uw129
                  refine sf_iinc (L' := [(9, .inl (.int v113)), (5, .inl (.long v20)), (8, .inl (.int v18)), (0, .inl (.ref 71)), (1, .inl (.int a_d))]) sf_c1 rfl rfl (by omega) (fun v132 ev132 => ?_)
                  refine sf_can (L' := [(0, .inl (.ref 71)), (1, .inl (.int a_d)), (5, .inl (.long v20)), (7, .inl (.int v132))]) rfl ?_
                  exact i_95 w129 v20 v132 Iw129 sw129 (by omega) (by omega) (by omega) (by omega) (by rw [c131, c128, c102]; first | exact f_2 | exact r2 (by omega)) (by omega)
              · refine sf_aload rfl ?_
                refine sf_getr Iw100 rfl rfl ?_
                refine sf_iload rfl ?_
                refine sf_iald Iw100 rfl (by omega) (fun v133 lv133 uv133 ev133 => ?_)
                clear lv133 uv133
                clear ev133
                refine sf_istore (L' := [(5, .inl (.long v20)), (8, .inl (.int v18)), (0, .inl (.ref 71)), (1, .inl (.int a_d)), (7, .inl (.int x7))]) rfl ?_
                refine sf_aload rfl ?_
                refine sf_getr Iw100 rfl rfl ?_
                refine sf_iload rfl ?_
                refine sf_iald Iw100 rfl (by omega) (fun v134 lv134 uv134 ev134 => ?_)
                refine sf_f1_lt (fun h135 => ?_) (fun h135 => ?_)
                · refine sf_aload rfl ?_
                  refine sf_getr Iw100 rfl rfl ?_
                  refine sf_iload rfl ?_
                  refine sf_iload rfl ?_
                  refine sf_iast Iw100 sw100 rfl (by omega) (sf_bd _) rfl rfl (fun w136 Iw136 sw136 kw136 uw136 => ?_)
                  have c137 := sf_mf kw136 (p := 71) (j := 0) rfl
                  have c138 := sf_ma kw136 (p := 117) rfl
                  clear kw136 uw136
                  refine sf_iinc (L' := [(9, .inl (.int v133)), (5, .inl (.long v20)), (8, .inl (.int v18)), (0, .inl (.ref 71)), (1, .inl (.int a_d))]) sf_c1 rfl rfl (by omega) (fun v139 ev139 => ?_)
                  refine sf_can (L' := [(0, .inl (.ref 71)), (1, .inl (.int a_d)), (5, .inl (.long v20)), (7, .inl (.int v139))]) rfl ?_
                  exact i_95 w136 v20 v139 Iw136 sw136 (by omega) (by omega) (by omega) (by omega) (by rw [c138, c102]; first | exact f_2 | exact r2 (by omega)) (by omega)
                · refine sf_aload rfl ?_
                  refine sf_getr Iw100 rfl rfl ?_
                  refine sf_aload rfl ?_
                  refine sf_getr Iw100 rfl rfl ?_
                  refine sf_iload rfl ?_
                  refine sf_iald Iw100 rfl (by omega) (fun v140 lv140 uv140 ev140 => ?_)
                  refine sf_aload rfl ?_
                  refine sf_getr Iw100 rfl rfl ?_
                  refine sf_aload rfl ?_
                  refine sf_getr Iw100 rfl rfl ?_
                  refine sf_iload rfl ?_
                  refine sf_iald Iw100 rfl (by omega) (fun v141 lv141 uv141 ev141 => ?_)
                  refine sf_iald Iw100 rfl (by omega) (fun v142 lv142 uv142 ev142 => ?_)
                  clear lv142 uv142
                  clear ev142
                  refine sf_aload rfl ?_
                  refine sf_getr Iw100 rfl rfl ?_
                  refine sf_iload rfl ?_
                  refine sf_iald Iw100 rfl (by omega) (fun v143 lv143 uv143 ev143 => ?_)
                  clear lv143 uv143
                  clear ev143
                  refine sf_i2 (fun v144 => ?_)
                  refine sf_iload rfl ?_
                  refine sf_i2 (fun v145 => ?_)
                  refine sf_iast Iw100 sw100 rfl (by omega) (sf_bd _) rfl rfl (fun w146 Iw146 sw146 kw146 uw146 => ?_)
                  have c147 := sf_mf kw146 (p := 71) (j := 0) rfl
                  have c148 := sf_ma kw146 (p := 117) rfl
                  clear kw146 uw146
                  refine sf_aload rfl ?_
                  refine sf_getr Iw146 rfl rfl ?_
                  refine sf_iload rfl ?_
                  refine sf_iload rfl ?_
                  refine sf_iast Iw146 sw146 rfl (by omega) (sf_bd _) rfl rfl (fun w149 Iw149 sw149 kw149 uw149 => ?_)
                  have c150 := sf_mf kw149 (p := 71) (j := 0) rfl
                  have c151 := sf_ma kw149 (p := 117) rfl
                  clear kw149 uw149
                  refine sf_iinc (L' := [(9, .inl (.int v133)), (5, .inl (.long v20)), (8, .inl (.int v18)), (0, .inl (.ref 71)), (1, .inl (.int a_d))]) sf_c1 rfl rfl (by omega) (fun v152 ev152 => ?_)
                  refine sf_can (L' := [(0, .inl (.ref 71)), (1, .inl (.int a_d)), (5, .inl (.long v20)), (7, .inl (.int v152))]) rfl ?_
                  exact i_95 w149 v20 v152 Iw149 sw149 (by omega) (by omega) (by omega) (by omega) (by rw [c151, c148, c102]; first | exact f_2 | exact r2 (by omega)) (by omega)
            · refine sf_iconst sf_c0 (fun z153 ez153 => ?_)
              refine sf_istore (L' := [(5, .inl (.long v20)), (8, .inl (.int v18)), (0, .inl (.ref 71)), (1, .inl (.int a_d)), (7, .inl (.int x7))]) rfl ?_
              refine sf_aload rfl ?_
              refine sf_getr Iw100 rfl rfl ?_
              refine sf_iload rfl ?_
              refine sf_iald Iw100 rfl (by omega) (fun v154 lv154 uv154 ev154 => ?_)
              refine sf_f1_lt (fun h155 => ?_) (fun h155 => ?_)
              · refine sf_aload rfl ?_
                refine sf_getr Iw100 rfl rfl ?_
                refine sf_iload rfl ?_
                refine sf_iload rfl ?_
                refine sf_iast Iw100 sw100 rfl (by omega) (sf_bd _) rfl rfl (fun w156 Iw156 sw156 kw156 uw156 => ?_)
                have c157 := sf_mf kw156 (p := 71) (j := 0) rfl
                have c158 := sf_ma kw156 (p := 117) rfl
                clear kw156 uw156
                refine sf_iinc (L' := [(9, .inl (.int z153)), (5, .inl (.long v20)), (8, .inl (.int v18)), (0, .inl (.ref 71)), (1, .inl (.int a_d))]) sf_c1 rfl rfl (by omega) (fun v159 ev159 => ?_)
                refine sf_can (L' := [(0, .inl (.ref 71)), (1, .inl (.int a_d)), (5, .inl (.long v20)), (7, .inl (.int v159))]) rfl ?_
                exact i_95 w156 v20 v159 Iw156 sw156 (by omega) (by omega) (by omega) (by omega) (by rw [c158, c102]; first | exact f_2 | exact r2 (by omega)) (by omega)
              · refine sf_aload rfl ?_
                refine sf_getr Iw100 rfl rfl ?_
                refine sf_aload rfl ?_
                refine sf_getr Iw100 rfl rfl ?_
                refine sf_iload rfl ?_
                refine sf_iald Iw100 rfl (by omega) (fun v160 lv160 uv160 ev160 => ?_)
                refine sf_aload rfl ?_
                refine sf_getr Iw100 rfl rfl ?_
                refine sf_aload rfl ?_
                refine sf_getr Iw100 rfl rfl ?_
                refine sf_iload rfl ?_
                refine sf_iald Iw100 rfl (by omega) (fun v161 lv161 uv161 ev161 => ?_)
                refine sf_iald Iw100 rfl (by omega) (fun v162 lv162 uv162 ev162 => ?_)
                clear lv162 uv162
                clear ev162
                refine sf_aload rfl ?_
                refine sf_getr Iw100 rfl rfl ?_
                refine sf_iload rfl ?_
                refine sf_iald Iw100 rfl (by omega) (fun v163 lv163 uv163 ev163 => ?_)
                clear lv163 uv163
                clear ev163
                refine sf_i2 (fun v164 => ?_)
                refine sf_iload rfl ?_
                refine sf_i2 (fun v165 => ?_)
                refine sf_iast Iw100 sw100 rfl (by omega) (sf_bd _) rfl rfl (fun w166 Iw166 sw166 kw166 uw166 => ?_)
                have c167 := sf_mf kw166 (p := 71) (j := 0) rfl
                have c168 := sf_ma kw166 (p := 117) rfl
                clear kw166 uw166
                refine sf_aload rfl ?_
                refine sf_getr Iw166 rfl rfl ?_
                refine sf_iload rfl ?_
                refine sf_iload rfl ?_
                refine sf_iast Iw166 sw166 rfl (by omega) (sf_bd _) rfl rfl (fun w169 Iw169 sw169 kw169 uw169 => ?_)
                have c170 := sf_mf kw169 (p := 71) (j := 0) rfl
                have c171 := sf_ma kw169 (p := 117) rfl
                clear kw169 uw169
                refine sf_iinc (L' := [(9, .inl (.int z153)), (5, .inl (.long v20)), (8, .inl (.int v18)), (0, .inl (.ref 71)), (1, .inl (.int a_d))]) sf_c1 rfl rfl (by omega) (fun v172 ev172 => ?_)
                refine sf_can (L' := [(0, .inl (.ref 71)), (1, .inl (.int a_d)), (5, .inl (.long v20)), (7, .inl (.int v172))]) rfl ?_
                exact i_95 w169 v20 v172 Iw169 sw169 (by omega) (by omega) (by omega) (by omega) (by rw [c171, c168, c102]; first | exact f_2 | exact r2 (by omega)) (by omega)
      · intro w x5 x7 x9 I_w s_w l_x9 u_x9 f_0 f_1 hm
        show kh_M_amend_297 rt xt (ku_M_amend rt xt n) [(0, .inl (.ref 71)), (1, .inl (.int a_d)), (5, .inl (.long x5)), (7, .inl (.long x7)), (9, .inl (.int x9))] [] w 0 0
        generalize ku_M_amend rt xt n = K at i_95 i_297 ⊢
        refine sf_iload rfl ?_
        refine sf_iconst sf_c4 (fun z173 ez173 => ?_)
        refine sf_iload rfl ?_
        refine sf_imull (n := 4) (by omega) (by omega) (fun v174 ev174 => ?_)
        refine sf_aload rfl ?_
        refine sf_getr I_w rfl rfl ?_
        refine sf_iload rfl ?_
        refine sf_iald I_w rfl (by omega) (fun v175 lv175 uv175 ev175 => ?_)
        rw [sf_ma s_w (p := 104) rfl] at ev175
        refine sf_iadd (by omega) (fun v176 ev176 => ?_)
        refine sf_f2_ge (fun h177 => ?_) (fun h177 => ?_)
        · refine sf_lload rfl ?_
          refine sf_lload rfl ?_
          refine sf_l2 (fun v178 => ?_)
          refine sf_lreturn rfl rfl ?_
          exact hR _ _ I_w s_w 
        · refine sf_aload rfl ?_
          refine sf_getr I_w rfl rfl ?_
          refine sf_aload rfl ?_
          refine sf_getr I_w rfl rfl ?_
          refine sf_iload rfl ?_
          refine sf_iald I_w rfl (by omega) (fun v179 lv179 uv179 ev179 => ?_)
          clear ev179
          refine sf_aload rfl ?_
          refine sf_getr I_w rfl rfl ?_
          refine sf_iconst sf_c3 (fun z180 ez180 => ?_)
          refine sf_iload rfl ?_
          refine sf_imull (n := 3) (by omega) (by omega) (fun v181 ev181 => ?_)
          refine sf_iald I_w rfl (by omega) (fun v182 lv182 uv182 ev182 => ?_)
          refine sf_iast I_w s_w rfl (by omega) (sf_bd _) rfl rfl (fun w183 Iw183 sw183 kw183 uw183 => ?_)
          have c184 := sf_mf kw183 (p := 71) (j := 0) rfl
          have c185 := sf_ma kw183 (p := 117) rfl
          clear kw183 uw183
          refine sf_aload rfl ?_
          refine sf_getr Iw183 rfl rfl ?_
          refine sf_aload rfl ?_
          refine sf_getr Iw183 rfl rfl ?_
          refine sf_iload rfl ?_
          refine sf_iald Iw183 rfl (by omega) (fun v186 lv186 uv186 ev186 => ?_)
          clear ev186
          refine sf_aload rfl ?_
          refine sf_getr Iw183 rfl rfl ?_
          refine sf_iload rfl ?_
          refine sf_lald Iw183 rfl (by omega) (fun v187 ev187 => ?_)
          clear ev187
          refine sf_last Iw183 sw183 rfl (by omega) rfl rfl (fun w188 Iw188 sw188 kw188 uw188 => ?_)
          have c189 := sf_mf kw188 (p := 71) (j := 0) rfl
          have c190 := sf_ma kw188 (p := 117) rfl
          clear kw188 uw188
          refine sf_aload rfl ?_
          refine sf_aload rfl ?_
          refine sf_getr Iw188 rfl rfl ?_
          refine sf_iload rfl ?_
          refine sf_zald Iw188 rfl (by omega) (fun v191 lv191 uv191 ev191 => ?_)
          clear ev191
          refine sf_f1_eq (fun h192 => ?_) (fun h192 => ?_)
          · refine sf_aload rfl ?_
            refine sf_getl Iw188 rfl rfl (fun v193 => ?_)
            refine sf_aload rfl ?_
            refine sf_getr Iw188 rfl rfl ?_
            refine sf_iload rfl ?_
            refine sf_lald Iw188 rfl (by omega) (fun v194 ev194 => ?_)
            clear ev194
            refine sf_l2 (fun v195 => ?_)
            refine sf_putl Iw188 sw188 rfl rfl rfl rfl rfl (fun w196 Iw196 sw196 kw196 uw196 => ?_)
            have c197 := sf_mf kw196 (p := 71) (j := 0) rfl
            have c198 := sf_ma kw196 (p := 117) rfl
            clear kw196 uw196
            refine sf_iinc (L' := [(0, .inl (.ref 71)), (1, .inl (.int a_d)), (5, .inl (.long x5)), (7, .inl (.long x7))]) sf_c1 rfl rfl (by omega) (fun v199 ev199 => ?_)
            refine sf_can (L' := [(0, .inl (.ref 71)), (1, .inl (.int a_d)), (5, .inl (.long x5)), (7, .inl (.long x7)), (9, .inl (.int v199))]) rfl ?_
            exact i_297 w196 x5 x7 v199 Iw196 sw196 (by omega) (by omega) (by omega) (by omega) (by omega)
          · refine sf_aload rfl ?_
            refine sf_getl Iw188 rfl rfl (fun v200 => ?_)
            refine sf_putl Iw188 sw188 rfl rfl rfl rfl rfl (fun w201 Iw201 sw201 kw201 uw201 => ?_)
            have c202 := sf_mf kw201 (p := 71) (j := 0) rfl
            have c203 := sf_ma kw201 (p := 117) rfl
            clear kw201 uw201
            refine sf_iinc (L' := [(0, .inl (.ref 71)), (1, .inl (.int a_d)), (5, .inl (.long x5)), (7, .inl (.long x7))]) sf_c1 rfl rfl (by omega) (fun v204 ev204 => ?_)
            refine sf_can (L' := [(0, .inl (.ref 71)), (1, .inl (.int a_d)), (5, .inl (.long x5)), (7, .inl (.long x7)), (9, .inl (.int v204))]) rfl ?_
            exact i_297 w201 x5 x7 v204 Iw201 sw201 (by omega) (by omega) (by omega) (by omega) (by omega)
  have hl1 := hl 1000000000000
  obtain ⟨i_95, i_297⟩ := hl1
  clear hl
  refine sf_sp (L := [(0, .inl (.ref 71)), (1, .inl (.int a_d)), (2, .inl (.int a_l)), (3, .inl (.int a_field)), (4, .inl (.int a_v))]) rfl rfl ?_
  generalize ku_M_amend rt xt 1000000000000 = K at i_95 i_297 ⊢
  refine sf_aload rfl ?_
  refine sf_aload rfl ?_
  refine sf_iload rfl ?_
  refine sf_iload rfl ?_
  refine sf_call3 rfl rfl rfl ?_
  refine sf_rv hI0 rfl ?_
  refine sf_sp (L := [(0, .inl (.ref 71)), (1, .inl (.int a_d)), (2, .inl (.int a_l))]) rfl rfl ?_
  refine sf_aload rfl ?_
  refine sf_iload rfl ?_
  refine sf_call2 rfl rfl rfl ?_
  refine sf_rv hI0 rfl ?_
  refine sf_sp (L := [(0, .inl (.ref 71)), (1, .inl (.int a_d))]) rfl rfl ?_
  refine sf_iload rfl ?_
  refine sf_f1_lt (fun h205 => ?_) (fun h205 => ?_)
  · refine sf_iconst sf_c0 (fun z206 ez206 => ?_)
    refine sf_zreturn (by omega) rfl rfl ?_
    refine sf_f1_eq (fun h207 => ?_) (fun h207 => absurd h207 (by omega))
    refine sf_iconst sf_c0 (fun z208 ez208 => ?_)
    refine sf_zreturn (by omega) rfl rfl ?_
    refine sf_f1_eq (fun h209 => ?_) (fun h209 => absurd h209 (by omega))
    refine sf_iconst sf_c1 (fun z210 ez210 => ?_)
    refine sf_puti hI0 hs0 rfl rfl (sf_bd _) rfl rfl rfl (fun w211 Iw211 sw211 kw211 uw211 => ?_)
    have c212 := sf_ma kw211 (p := 117) rfl
    clear kw211
    refine sf_aload rfl ?_
    refine sf_geti Iw211 rfl rfl (fun v213 lv213 uv213 ev213 => ?_)
    rw [uw211] at ev213
    refine sf_f1_le (fun h214 => absurd h214 (by omega)) (fun h214 => ?_)
    refine sf_lconst (by decide : (0 : Int64).toInt = 0) (fun z215 ez215 => ?_)
    refine sf_lreturn rfl rfl ?_
    exact hR _ _ Iw211 sw211 
  · refine sf_iload rfl ?_
    refine sf_aload rfl ?_
    refine sf_geti hI0 rfl rfl (fun v216 lv216 uv216 ev216 => ?_)
    refine sf_f2_ge (fun h217 => ?_) (fun h217 => ?_)
    · refine sf_iconst sf_c0 (fun z218 ez218 => ?_)
      refine sf_zreturn (by omega) rfl rfl ?_
      refine sf_f1_eq (fun h219 => ?_) (fun h219 => absurd h219 (by omega))
      refine sf_iconst sf_c0 (fun z220 ez220 => ?_)
      refine sf_zreturn (by omega) rfl rfl ?_
      refine sf_f1_eq (fun h221 => ?_) (fun h221 => absurd h221 (by omega))
      refine sf_iconst sf_c1 (fun z222 ez222 => ?_)
      refine sf_puti hI0 hs0 rfl rfl (sf_bd _) rfl rfl rfl (fun w223 Iw223 sw223 kw223 uw223 => ?_)
      have c224 := sf_ma kw223 (p := 117) rfl
      clear kw223
      refine sf_aload rfl ?_
      refine sf_geti Iw223 rfl rfl (fun v225 lv225 uv225 ev225 => ?_)
      rw [uw223] at ev225
      refine sf_f1_le (fun h226 => absurd h226 (by omega)) (fun h226 => ?_)
      refine sf_lconst (by decide : (0 : Int64).toInt = 0) (fun z227 ez227 => ?_)
      refine sf_lreturn rfl rfl ?_
      exact hR _ _ Iw223 sw223 
    · refine sf_iconst sf_c1 (fun z228 ez228 => ?_)
      refine sf_zreturn (by omega) rfl rfl ?_
      refine sf_f1_eq (fun h229 => absurd h229 (by omega)) (fun h229 => ?_)
      refine sf_iload rfl ?_
      refine sf_f1_lt (fun h230 => ?_) (fun h230 => ?_)
      · refine sf_iconst sf_c0 (fun z231 ez231 => ?_)
        refine sf_zreturn (by omega) rfl rfl ?_
        refine sf_f1_eq (fun h232 => ?_) (fun h232 => absurd h232 (by omega))
        refine sf_iconst sf_c1 (fun z233 ez233 => ?_)
        refine sf_puti hI0 hs0 rfl rfl (sf_bd _) rfl rfl rfl (fun w234 Iw234 sw234 kw234 uw234 => ?_)
        have c235 := sf_ma kw234 (p := 117) rfl
        clear kw234
        refine sf_aload rfl ?_
        refine sf_geti Iw234 rfl rfl (fun v236 lv236 uv236 ev236 => ?_)
        rw [uw234] at ev236
        refine sf_f1_le (fun h237 => absurd h237 (by omega)) (fun h237 => ?_)
        refine sf_lconst (by decide : (0 : Int64).toInt = 0) (fun z238 ez238 => ?_)
        refine sf_lreturn rfl rfl ?_
        exact hR _ _ Iw234 sw234 
      · refine sf_iload rfl ?_
        refine sf_aload rfl ?_
        refine sf_getr hI0 rfl rfl ?_
        refine sf_iload rfl ?_
        refine sf_iald hI0 rfl (by omega) (fun v239 lv239 uv239 ev239 => ?_)
        refine sf_f2_ge (fun h240 => ?_) (fun h240 => ?_)
        · refine sf_iconst sf_c0 (fun z241 ez241 => ?_)
          refine sf_zreturn (by omega) rfl rfl ?_
          refine sf_f1_eq (fun h242 => ?_) (fun h242 => absurd h242 (by omega))
          refine sf_iconst sf_c1 (fun z243 ez243 => ?_)
          refine sf_puti hI0 hs0 rfl rfl (sf_bd _) rfl rfl rfl (fun w244 Iw244 sw244 kw244 uw244 => ?_)
          have c245 := sf_ma kw244 (p := 117) rfl
          clear kw244
          refine sf_aload rfl ?_
          refine sf_geti Iw244 rfl rfl (fun v246 lv246 uv246 ev246 => ?_)
          rw [uw244] at ev246
          refine sf_f1_le (fun h247 => absurd h247 (by omega)) (fun h247 => ?_)
          refine sf_lconst (by decide : (0 : Int64).toInt = 0) (fun z248 ez248 => ?_)
          refine sf_lreturn rfl rfl ?_
          exact hR _ _ Iw244 sw244 
        · refine sf_iconst sf_c1 (fun z249 ez249 => ?_)
          refine sf_zreturn (by omega) rfl rfl ?_
          refine sf_f1_eq (fun h250 => absurd h250 (by omega)) (fun h250 => ?_)
          refine sf_iload rfl ?_
          refine sf_iconst sf_c0 (fun z251 ez251 => ?_)
          refine sf_iconst sf_c2 (fun z252 ez252 => ?_)
          refine sf_call3 rfl rfl rfl ?_
          refine sf_sp (L := [(0, .inl (.int a_field)), (1, .inl (.int z251)), (2, .inl (.int z252))]) rfl rfl ?_
          refine sf_iload rfl ?_
          refine sf_iload rfl ?_
          refine sf_f2_lt (fun h253 => ?_) (fun h253 => ?_)
          · refine sf_iconst sf_c0 (fun z254 ez254 => ?_)
            refine sf_zreturn (by omega) rfl rfl ?_
            refine sf_f1_eq (fun h255 => ?_) (fun h255 => absurd h255 (by omega))
            refine sf_iconst sf_c1 (fun z256 ez256 => ?_)
            refine sf_puti hI0 hs0 rfl rfl (sf_bd _) rfl rfl rfl (fun w257 Iw257 sw257 kw257 uw257 => ?_)
            have c258 := sf_ma kw257 (p := 117) rfl
            clear kw257
            refine sf_aload rfl ?_
            refine sf_geti Iw257 rfl rfl (fun v259 lv259 uv259 ev259 => ?_)
            rw [uw257] at ev259
            refine sf_f1_le (fun h260 => absurd h260 (by omega)) (fun h260 => ?_)
            refine sf_lconst (by decide : (0 : Int64).toInt = 0) (fun z261 ez261 => ?_)
            refine sf_lreturn rfl rfl ?_
            exact hR _ _ Iw257 sw257 
          · refine sf_iload rfl ?_
            refine sf_iload rfl ?_
            refine sf_f2_gt (fun h262 => ?_) (fun h262 => ?_)
            · refine sf_iconst sf_c0 (fun z263 ez263 => ?_)
              refine sf_zreturn (by omega) rfl rfl ?_
              refine sf_f1_eq (fun h264 => ?_) (fun h264 => absurd h264 (by omega))
              refine sf_iconst sf_c1 (fun z265 ez265 => ?_)
              refine sf_puti hI0 hs0 rfl rfl (sf_bd _) rfl rfl rfl (fun w266 Iw266 sw266 kw266 uw266 => ?_)
              have c267 := sf_ma kw266 (p := 117) rfl
              clear kw266
              refine sf_aload rfl ?_
              refine sf_geti Iw266 rfl rfl (fun v268 lv268 uv268 ev268 => ?_)
              rw [uw266] at ev268
              refine sf_f1_le (fun h269 => absurd h269 (by omega)) (fun h269 => ?_)
              refine sf_lconst (by decide : (0 : Int64).toInt = 0) (fun z270 ez270 => ?_)
              refine sf_lreturn rfl rfl ?_
              exact hR _ _ Iw266 sw266 
            · refine sf_iconst sf_c1 (fun z271 ez271 => ?_)
              refine sf_zreturn (by omega) rfl rfl ?_
              refine sf_f1_eq (fun h272 => absurd h272 (by omega)) (fun h272 => ?_)
              refine sf_iload rfl ?_
              refine sf_iload rfl ?_
              refine sf_call2 rfl rfl rfl ?_
              refine sf_sp (L := [(0, .inl (.int a_field)), (1, .inl (.int a_v))]) rfl rfl ?_
              refine sf_iload rfl ?_
              refine sf_f1_eq (fun h273 => ?_) (fun h273 => ?_)
              · refine sf_iload rfl ?_
                refine sf_iconst sf_c1 (fun z274 ez274 => ?_)
                refine sf_f2_lt (fun h275 => ?_) (fun h275 => ?_)
                · refine sf_iconst sf_c0 (fun z276 ez276 => ?_)
                  refine sf_zreturn (by omega) rfl rfl ?_
                  refine sf_f1_eq (fun h277 => ?_) (fun h277 => absurd h277 (by omega))
                  refine sf_iconst sf_c1 (fun z278 ez278 => ?_)
                  refine sf_puti hI0 hs0 rfl rfl (sf_bd _) rfl rfl rfl (fun w279 Iw279 sw279 kw279 uw279 => ?_)
                  have c280 := sf_ma kw279 (p := 117) rfl
                  clear kw279
                  refine sf_aload rfl ?_
                  refine sf_geti Iw279 rfl rfl (fun v281 lv281 uv281 ev281 => ?_)
                  rw [uw279] at ev281
                  refine sf_f1_le (fun h282 => absurd h282 (by omega)) (fun h282 => ?_)
                  refine sf_lconst (by decide : (0 : Int64).toInt = 0) (fun z283 ez283 => ?_)
                  refine sf_lreturn rfl rfl ?_
                  exact hR _ _ Iw279 sw279 
                · refine sf_iload rfl ?_
                  refine sf_iconst sf_c1000 (fun z284 ez284 => ?_)
                  refine sf_f2_gt (fun h285 => ?_) (fun h285 => ?_)
                  · refine sf_iconst sf_c0 (fun z286 ez286 => ?_)
                    refine sf_zreturn (by omega) rfl rfl ?_
                    refine sf_f1_eq (fun h287 => ?_) (fun h287 => absurd h287 (by omega))
                    refine sf_iconst sf_c1 (fun z288 ez288 => ?_)
                    refine sf_puti hI0 hs0 rfl rfl (sf_bd _) rfl rfl rfl (fun w289 Iw289 sw289 kw289 uw289 => ?_)
                    have c290 := sf_ma kw289 (p := 117) rfl
                    clear kw289
                    refine sf_aload rfl ?_
                    refine sf_geti Iw289 rfl rfl (fun v291 lv291 uv291 ev291 => ?_)
                    rw [uw289] at ev291
                    refine sf_f1_le (fun h292 => absurd h292 (by omega)) (fun h292 => ?_)
                    refine sf_lconst (by decide : (0 : Int64).toInt = 0) (fun z293 ez293 => ?_)
                    refine sf_lreturn rfl rfl ?_
                    exact hR _ _ Iw289 sw289 
                  · refine sf_iconst sf_c1 (fun z294 ez294 => ?_)
                    refine sf_zreturn (by omega) rfl rfl ?_
                    refine sf_f1_eq (fun h295 => absurd h295 (by omega)) (fun h295 => ?_)
                    refine sf_aload rfl ?_
                    refine sf_iload rfl ?_
                    refine sf_call2 rfl rfl rfl ?_
                    refine sf_rv hI0 rfl ?_
                    refine sc_M_isWhole hI0 (by omega) (by omega) (fun v296 lv296 uv296 => ?_)
                    refine sf_f1_eq (fun h298 => ?_) (fun h298 => ?_)
                    · refine sf_iconst sf_c2 (fun z299 ez299 => ?_)
                      refine sf_puti hI0 hs0 rfl rfl (sf_bd _) rfl rfl rfl (fun w300 Iw300 sw300 kw300 uw300 => ?_)
                      have c301 := sf_ma kw300 (p := 117) rfl
                      clear kw300
                      refine sf_aload rfl ?_
                      refine sf_geti Iw300 rfl rfl (fun v302 lv302 uv302 ev302 => ?_)
                      rw [uw300] at ev302
                      refine sf_f1_le (fun h303 => absurd h303 (by omega)) (fun h303 => ?_)
                      refine sf_lconst (by decide : (0 : Int64).toInt = 0) (fun z304 ez304 => ?_)
                      refine sf_lreturn rfl rfl ?_
                      exact hR _ _ Iw300 sw300 
                    · refine sf_aload rfl ?_
                      refine sf_iload rfl ?_
                      refine sf_call2 rfl rfl rfl ?_
                      refine sf_rv hI0 rfl ?_
                      refine sc_M_find hI0 (by omega) (by omega) (fun v305 w306 Iw306 tw306 lv305 uv305 q307_0 => ?_)
                      have s308 := sf_mt hs0 tw306 rfl
                      have c309 := sf_mf tw306 (p := 71) (j := 0) rfl
                      have r2 := q307_0
                      rw [sf_ma s308 (p := 104) rfl] at r2
                      refine sf_f1_eq (fun h310 => ?_) (fun h310 => ?_)
                      · refine sf_iconst sf_c3 (fun z311 ez311 => ?_)
                        refine sf_puti Iw306 s308 rfl rfl (sf_bd _) rfl rfl rfl (fun w312 Iw312 sw312 kw312 uw312 => ?_)
                        have c313 := sf_ma kw312 (p := 117) rfl
                        clear kw312
                        refine sf_aload rfl ?_
                        refine sf_geti Iw312 rfl rfl (fun v314 lv314 uv314 ev314 => ?_)
                        rw [uw312] at ev314
                        refine sf_f1_le (fun h315 => absurd h315 (by omega)) (fun h315 => ?_)
                        refine sf_lconst (by decide : (0 : Int64).toInt = 0) (fun z316 ez316 => ?_)
                        refine sf_lreturn rfl rfl ?_
                        exact hR _ _ Iw312 sw312 
                      · refine sf_iconst sf_c0 (fun z317 ez317 => ?_)
                        refine sf_puti Iw306 s308 rfl rfl (sf_bd _) rfl rfl rfl (fun w318 Iw318 sw318 kw318 uw318 => ?_)
                        have c319 := sf_ma kw318 (p := 117) rfl
                        clear kw318
                        refine sf_aload rfl ?_
                        refine sf_geti Iw318 rfl rfl (fun v320 lv320 uv320 ev320 => ?_)
                        rw [uw318] at ev320
                        refine sf_f1_le (fun h321 => ?_) (fun h321 => absurd h321 (by omega))
                        refine sf_aload rfl ?_
                        refine sf_getr Iw318 rfl rfl ?_
                        refine sf_iconst sf_c3 (fun z322 ez322 => ?_)
                        refine sf_iconst sf_c4 (fun z323 ez323 => ?_)
                        refine sf_iload rfl ?_
                        refine sf_imull (n := 4) (by omega) (by omega) (fun v324 ev324 => ?_)
                        refine sf_iload rfl ?_
                        refine sf_iadd (by omega) (fun v325 ev325 => ?_)
                        refine sf_imull (n := 3) (by omega) (by omega) (fun v326 ev326 => ?_)
                        refine sf_iload rfl ?_
                        refine sf_iadd (by omega) (fun v327 ev327 => ?_)
                        refine sf_iload rfl ?_
                        refine sf_iastR Iw318 sw318 rfl (by omega) (sf_bd _) rfl (fun w9 h1 h2 => sf_R_fi Iw318 h1 h2 (by omega) (by omega)) (fun w328 Iw328 sw328 kw328 uw328 => ?_)
                        have c329 := sf_mf kw328 (p := 71) (j := 0) rfl
                        have c330 := sf_ma kw328 (p := 117) rfl
                        clear kw328 uw328
                        refine sf_lconst (by decide : (0 : Int64).toInt = 0) (fun z331 ez331 => ?_)
                        refine sf_lstore (L' := [(0, .inl (.ref 71)), (1, .inl (.int a_d)), (2, .inl (.int a_l)), (3, .inl (.int a_field)), (4, .inl (.int a_v))]) rfl ?_
                        refine sf_aload rfl ?_
                        refine sf_call1 rfl rfl rfl ?_
                        refine sf_rv Iw328 rfl ?_
                        refine sc_M_mean Iw328  (fun w332 Iw332 tw332 => ?_)
                        have s334 := sf_mt sw328 tw332 rfl
                        have c335 := sf_mf tw332 (p := 71) (j := 0) rfl
                        have c336 := sf_ma tw332 (p := 117) rfl
                        refine sf_iconst sf_c0 (fun z337 ez337 => ?_)
                        refine sf_istore (L' := [(5, .inl (.long z331)), (0, .inl (.ref 71)), (1, .inl (.int a_d)), (2, .inl (.int a_l)), (3, .inl (.int a_field)), (4, .inl (.int a_v))]) rfl ?_
                        refine sf_can (L' := [(0, .inl (.ref 71)), (1, .inl (.int a_d)), (5, .inl (.long z331)), (7, .inl (.int z337))]) rfl ?_
                        exact i_95 w332 z331 z337 Iw332 s334 (by omega) (by omega) (by omega) (by omega) (by rw [c336, c330, c319]; first | exact f_2 | exact r2 (by omega)) (by omega)
              · refine sf_iload rfl ?_
                refine sf_f1_lt (fun h338 => ?_) (fun h338 => ?_)
                · refine sf_iconst sf_c0 (fun z339 ez339 => ?_)
                  refine sf_zreturn (by omega) rfl rfl ?_
                  refine sf_f1_eq (fun h340 => ?_) (fun h340 => absurd h340 (by omega))
                  refine sf_iconst sf_c1 (fun z341 ez341 => ?_)
                  refine sf_puti hI0 hs0 rfl rfl (sf_bd _) rfl rfl rfl (fun w342 Iw342 sw342 kw342 uw342 => ?_)
                  have c343 := sf_ma kw342 (p := 117) rfl
                  clear kw342
                  refine sf_aload rfl ?_
                  refine sf_geti Iw342 rfl rfl (fun v344 lv344 uv344 ev344 => ?_)
                  rw [uw342] at ev344
                  refine sf_f1_le (fun h345 => absurd h345 (by omega)) (fun h345 => ?_)
                  refine sf_lconst (by decide : (0 : Int64).toInt = 0) (fun z346 ez346 => ?_)
                  refine sf_lreturn rfl rfl ?_
                  exact hR _ _ Iw342 sw342 
                · refine sf_iload rfl ?_
                  refine sf_iload rfl ?_
                  refine sf_iconst sf_c1 (fun z347 ez347 => ?_)
                  refine sf_f2_eq (fun h348 => ?_) (fun h348 => ?_)
                  · refine sf_iconst sf_cl1000000 (fun z349 ez349 => ?_)
                    refine sf_f2_gt (fun h350 => ?_) (fun h350 => ?_)
                    · refine sf_iconst sf_c0 (fun z351 ez351 => ?_)
                      refine sf_zreturn (by omega) rfl rfl ?_
                      refine sf_f1_eq (fun h352 => ?_) (fun h352 => absurd h352 (by omega))
                      refine sf_iconst sf_c1 (fun z353 ez353 => ?_)
                      refine sf_puti hI0 hs0 rfl rfl (sf_bd _) rfl rfl rfl (fun w354 Iw354 sw354 kw354 uw354 => ?_)
                      have c355 := sf_ma kw354 (p := 117) rfl
                      clear kw354
                      refine sf_aload rfl ?_
                      refine sf_geti Iw354 rfl rfl (fun v356 lv356 uv356 ev356 => ?_)
                      rw [uw354] at ev356
                      refine sf_f1_le (fun h357 => absurd h357 (by omega)) (fun h357 => ?_)
                      refine sf_lconst (by decide : (0 : Int64).toInt = 0) (fun z358 ez358 => ?_)
                      refine sf_lreturn rfl rfl ?_
                      exact hR _ _ Iw354 sw354 
                    · refine sf_iconst sf_c1 (fun z359 ez359 => ?_)
                      refine sf_zreturn (by omega) rfl rfl ?_
                      refine sf_f1_eq (fun h360 => absurd h360 (by omega)) (fun h360 => ?_)
                      refine sf_aload rfl ?_
                      refine sf_iload rfl ?_
                      refine sf_call2 rfl rfl rfl ?_
                      refine sf_rv hI0 rfl ?_
                      refine sc_M_isWhole hI0 (by omega) (by omega) (fun v361 lv361 uv361 => ?_)
                      refine sf_f1_eq (fun h363 => ?_) (fun h363 => ?_)
                      · refine sf_iconst sf_c2 (fun z364 ez364 => ?_)
                        refine sf_puti hI0 hs0 rfl rfl (sf_bd _) rfl rfl rfl (fun w365 Iw365 sw365 kw365 uw365 => ?_)
                        have c366 := sf_ma kw365 (p := 117) rfl
                        clear kw365
                        refine sf_aload rfl ?_
                        refine sf_geti Iw365 rfl rfl (fun v367 lv367 uv367 ev367 => ?_)
                        rw [uw365] at ev367
                        refine sf_f1_le (fun h368 => absurd h368 (by omega)) (fun h368 => ?_)
                        refine sf_lconst (by decide : (0 : Int64).toInt = 0) (fun z369 ez369 => ?_)
                        refine sf_lreturn rfl rfl ?_
                        exact hR _ _ Iw365 sw365 
                      · refine sf_aload rfl ?_
                        refine sf_iload rfl ?_
                        refine sf_call2 rfl rfl rfl ?_
                        refine sf_rv hI0 rfl ?_
                        refine sc_M_find hI0 (by omega) (by omega) (fun v370 w371 Iw371 tw371 lv370 uv370 q372_0 => ?_)
                        have s373 := sf_mt hs0 tw371 rfl
                        have c374 := sf_mf tw371 (p := 71) (j := 0) rfl
                        have r2 := q372_0
                        rw [sf_ma s373 (p := 104) rfl] at r2
                        refine sf_f1_eq (fun h375 => ?_) (fun h375 => ?_)
                        · refine sf_iconst sf_c3 (fun z376 ez376 => ?_)
                          refine sf_puti Iw371 s373 rfl rfl (sf_bd _) rfl rfl rfl (fun w377 Iw377 sw377 kw377 uw377 => ?_)
                          have c378 := sf_ma kw377 (p := 117) rfl
                          clear kw377
                          refine sf_aload rfl ?_
                          refine sf_geti Iw377 rfl rfl (fun v379 lv379 uv379 ev379 => ?_)
                          rw [uw377] at ev379
                          refine sf_f1_le (fun h380 => absurd h380 (by omega)) (fun h380 => ?_)
                          refine sf_lconst (by decide : (0 : Int64).toInt = 0) (fun z381 ez381 => ?_)
                          refine sf_lreturn rfl rfl ?_
                          exact hR _ _ Iw377 sw377 
                        · refine sf_iconst sf_c0 (fun z382 ez382 => ?_)
                          refine sf_puti Iw371 s373 rfl rfl (sf_bd _) rfl rfl rfl (fun w383 Iw383 sw383 kw383 uw383 => ?_)
                          have c384 := sf_ma kw383 (p := 117) rfl
                          clear kw383
                          refine sf_aload rfl ?_
                          refine sf_geti Iw383 rfl rfl (fun v385 lv385 uv385 ev385 => ?_)
                          rw [uw383] at ev385
                          refine sf_f1_le (fun h386 => ?_) (fun h386 => absurd h386 (by omega))
                          refine sf_aload rfl ?_
                          refine sf_getr Iw383 rfl rfl ?_
                          refine sf_iconst sf_c3 (fun z387 ez387 => ?_)
                          refine sf_iconst sf_c4 (fun z388 ez388 => ?_)
                          refine sf_iload rfl ?_
                          refine sf_imull (n := 4) (by omega) (by omega) (fun v389 ev389 => ?_)
                          refine sf_iload rfl ?_
                          refine sf_iadd (by omega) (fun v390 ev390 => ?_)
                          refine sf_imull (n := 3) (by omega) (by omega) (fun v391 ev391 => ?_)
                          refine sf_iload rfl ?_
                          refine sf_iadd (by omega) (fun v392 ev392 => ?_)
                          refine sf_iload rfl ?_
                          refine sf_iastR Iw383 sw383 rfl (by omega) (sf_bd _) rfl (fun w9 h1 h2 => sf_R_fi Iw383 h1 h2 (by omega) (by omega)) (fun w393 Iw393 sw393 kw393 uw393 => ?_)
                          have c394 := sf_mf kw393 (p := 71) (j := 0) rfl
                          have c395 := sf_ma kw393 (p := 117) rfl
                          clear kw393 uw393
                          refine sf_lconst (by decide : (0 : Int64).toInt = 0) (fun z396 ez396 => ?_)
                          refine sf_lstore (L' := [(0, .inl (.ref 71)), (1, .inl (.int a_d)), (2, .inl (.int a_l)), (3, .inl (.int a_field)), (4, .inl (.int a_v))]) rfl ?_
                          refine sf_aload rfl ?_
                          refine sf_call1 rfl rfl rfl ?_
                          refine sf_rv Iw393 rfl ?_
                          refine sc_M_mean Iw393  (fun w397 Iw397 tw397 => ?_)
                          have s399 := sf_mt sw393 tw397 rfl
                          have c400 := sf_mf tw397 (p := 71) (j := 0) rfl
                          have c401 := sf_ma tw397 (p := 117) rfl
                          refine sf_iconst sf_c0 (fun z402 ez402 => ?_)
                          refine sf_istore (L' := [(5, .inl (.long z396)), (0, .inl (.ref 71)), (1, .inl (.int a_d)), (2, .inl (.int a_l)), (3, .inl (.int a_field)), (4, .inl (.int a_v))]) rfl ?_
                          refine sf_can (L' := [(0, .inl (.ref 71)), (1, .inl (.int a_d)), (5, .inl (.long z396)), (7, .inl (.int z402))]) rfl ?_
                          exact i_95 w397 z396 z402 Iw397 s399 (by omega) (by omega) (by omega) (by omega) (by rw [c401, c395, c384]; first | exact f_2 | exact r2 (by omega)) (by omega)
                  · refine sf_iconst sf_cl100000000 (fun z403 ez403 => ?_)
                    refine sf_f2_gt (fun h404 => ?_) (fun h404 => ?_)
                    · refine sf_iconst sf_c0 (fun z405 ez405 => ?_)
                      refine sf_zreturn (by omega) rfl rfl ?_
                      refine sf_f1_eq (fun h406 => ?_) (fun h406 => absurd h406 (by omega))
                      refine sf_iconst sf_c1 (fun z407 ez407 => ?_)
                      refine sf_puti hI0 hs0 rfl rfl (sf_bd _) rfl rfl rfl (fun w408 Iw408 sw408 kw408 uw408 => ?_)
                      have c409 := sf_ma kw408 (p := 117) rfl
                      clear kw408
                      refine sf_aload rfl ?_
                      refine sf_geti Iw408 rfl rfl (fun v410 lv410 uv410 ev410 => ?_)
                      rw [uw408] at ev410
                      refine sf_f1_le (fun h411 => absurd h411 (by omega)) (fun h411 => ?_)
                      refine sf_lconst (by decide : (0 : Int64).toInt = 0) (fun z412 ez412 => ?_)
                      refine sf_lreturn rfl rfl ?_
                      exact hR _ _ Iw408 sw408 
                    · refine sf_iconst sf_c1 (fun z413 ez413 => ?_)
                      refine sf_zreturn (by omega) rfl rfl ?_
                      refine sf_f1_eq (fun h414 => absurd h414 (by omega)) (fun h414 => ?_)
                      refine sf_aload rfl ?_
                      refine sf_iload rfl ?_
                      refine sf_call2 rfl rfl rfl ?_
                      refine sf_rv hI0 rfl ?_
                      refine sc_M_isWhole hI0 (by omega) (by omega) (fun v415 lv415 uv415 => ?_)
                      refine sf_f1_eq (fun h417 => ?_) (fun h417 => ?_)
                      · refine sf_iconst sf_c2 (fun z418 ez418 => ?_)
                        refine sf_puti hI0 hs0 rfl rfl (sf_bd _) rfl rfl rfl (fun w419 Iw419 sw419 kw419 uw419 => ?_)
                        have c420 := sf_ma kw419 (p := 117) rfl
                        clear kw419
                        refine sf_aload rfl ?_
                        refine sf_geti Iw419 rfl rfl (fun v421 lv421 uv421 ev421 => ?_)
                        rw [uw419] at ev421
                        refine sf_f1_le (fun h422 => absurd h422 (by omega)) (fun h422 => ?_)
                        refine sf_lconst (by decide : (0 : Int64).toInt = 0) (fun z423 ez423 => ?_)
                        refine sf_lreturn rfl rfl ?_
                        exact hR _ _ Iw419 sw419 
                      · refine sf_aload rfl ?_
                        refine sf_iload rfl ?_
                        refine sf_call2 rfl rfl rfl ?_
                        refine sf_rv hI0 rfl ?_
                        refine sc_M_find hI0 (by omega) (by omega) (fun v424 w425 Iw425 tw425 lv424 uv424 q426_0 => ?_)
                        have s427 := sf_mt hs0 tw425 rfl
                        have c428 := sf_mf tw425 (p := 71) (j := 0) rfl
                        have r2 := q426_0
                        rw [sf_ma s427 (p := 104) rfl] at r2
                        refine sf_f1_eq (fun h429 => ?_) (fun h429 => ?_)
                        · refine sf_iconst sf_c3 (fun z430 ez430 => ?_)
                          refine sf_puti Iw425 s427 rfl rfl (sf_bd _) rfl rfl rfl (fun w431 Iw431 sw431 kw431 uw431 => ?_)
                          have c432 := sf_ma kw431 (p := 117) rfl
                          clear kw431
                          refine sf_aload rfl ?_
                          refine sf_geti Iw431 rfl rfl (fun v433 lv433 uv433 ev433 => ?_)
                          rw [uw431] at ev433
                          refine sf_f1_le (fun h434 => absurd h434 (by omega)) (fun h434 => ?_)
                          refine sf_lconst (by decide : (0 : Int64).toInt = 0) (fun z435 ez435 => ?_)
                          refine sf_lreturn rfl rfl ?_
                          exact hR _ _ Iw431 sw431 
                        · refine sf_iconst sf_c0 (fun z436 ez436 => ?_)
                          refine sf_puti Iw425 s427 rfl rfl (sf_bd _) rfl rfl rfl (fun w437 Iw437 sw437 kw437 uw437 => ?_)
                          have c438 := sf_ma kw437 (p := 117) rfl
                          clear kw437
                          refine sf_aload rfl ?_
                          refine sf_geti Iw437 rfl rfl (fun v439 lv439 uv439 ev439 => ?_)
                          rw [uw437] at ev439
                          refine sf_f1_le (fun h440 => ?_) (fun h440 => absurd h440 (by omega))
                          refine sf_aload rfl ?_
                          refine sf_getr Iw437 rfl rfl ?_
                          refine sf_iconst sf_c3 (fun z441 ez441 => ?_)
                          refine sf_iconst sf_c4 (fun z442 ez442 => ?_)
                          refine sf_iload rfl ?_
                          refine sf_imull (n := 4) (by omega) (by omega) (fun v443 ev443 => ?_)
                          refine sf_iload rfl ?_
                          refine sf_iadd (by omega) (fun v444 ev444 => ?_)
                          refine sf_imull (n := 3) (by omega) (by omega) (fun v445 ev445 => ?_)
                          refine sf_iload rfl ?_
                          refine sf_iadd (by omega) (fun v446 ev446 => ?_)
                          refine sf_iload rfl ?_
                          refine sf_iastR Iw437 sw437 rfl (by omega) (sf_bd _) rfl (fun w9 h1 h2 => sf_R_fi Iw437 h1 h2 (by omega) (by omega)) (fun w447 Iw447 sw447 kw447 uw447 => ?_)
                          have c448 := sf_mf kw447 (p := 71) (j := 0) rfl
                          have c449 := sf_ma kw447 (p := 117) rfl
                          clear kw447 uw447
                          refine sf_lconst (by decide : (0 : Int64).toInt = 0) (fun z450 ez450 => ?_)
                          refine sf_lstore (L' := [(0, .inl (.ref 71)), (1, .inl (.int a_d)), (2, .inl (.int a_l)), (3, .inl (.int a_field)), (4, .inl (.int a_v))]) rfl ?_
                          refine sf_aload rfl ?_
                          refine sf_call1 rfl rfl rfl ?_
                          refine sf_rv Iw447 rfl ?_
                          refine sc_M_mean Iw447  (fun w451 Iw451 tw451 => ?_)
                          have s453 := sf_mt sw447 tw451 rfl
                          have c454 := sf_mf tw451 (p := 71) (j := 0) rfl
                          have c455 := sf_ma tw451 (p := 117) rfl
                          refine sf_iconst sf_c0 (fun z456 ez456 => ?_)
                          refine sf_istore (L' := [(5, .inl (.long z450)), (0, .inl (.ref 71)), (1, .inl (.int a_d)), (2, .inl (.int a_l)), (3, .inl (.int a_field)), (4, .inl (.int a_v))]) rfl ?_
                          refine sf_can (L' := [(0, .inl (.ref 71)), (1, .inl (.int a_d)), (5, .inl (.long z450)), (7, .inl (.int z456))]) rfl ?_
                          exact i_95 w451 z450 z456 Iw451 s453 (by omega) (by omega) (by omega) (by omega) (by rw [c455, c449, c438]; first | exact f_2 | exact r2 (by omega)) (by omega)
def sm_M_release : List Nat := [71, 123, 127, 8100, 8166]
set_option maxRecDepth 100000 in
set_option maxHeartbeats 4000000 in
theorem sc_M_release {w0 : wq_W} (hI0 : sf_I w0) {rt : Option wq_V → wq_W → Prop} {xt : Nat → wq_W → Prop} {a_good : Int32} {a_units : Int32}  (hR : ∀ (r : Int64) (w : wq_W), sf_I w → sf_m sm_M_release w0 w → rt (some (.inl (.long r))) w) : ks_M_release [.inl (.ref 71), .inl (.int a_good), .inl (.int a_units)] w0 rt xt := by
  have hs0 : sf_m sm_M_release w0 w0 := sf_m0
  refine sf_sp (L := [(0, .inl (.ref 71)), (1, .inl (.int a_good)), (2, .inl (.int a_units))]) rfl rfl ?_
  refine sf_aload rfl ?_
  refine sf_iload rfl ?_
  refine sf_iconst sf_c0 (fun z1 ez1 => ?_)
  refine sf_iconst sf_c15 (fun z2 ez2 => ?_)
  refine sf_call3 rfl rfl rfl ?_
  refine sf_sp (L := [(0, .inl (.int a_good)), (1, .inl (.int z1)), (2, .inl (.int z2))]) rfl rfl ?_
  refine sf_iload rfl ?_
  refine sf_iload rfl ?_
  refine sf_f2_lt (fun h3 => ?_) (fun h3 => ?_)
  · refine sf_iconst sf_c0 (fun z4 ez4 => ?_)
    refine sf_zreturn (by omega) rfl rfl ?_
    refine sf_f1_eq (fun h5 => ?_) (fun h5 => absurd h5 (by omega))
    refine sf_iconst sf_c1 (fun z6 ez6 => ?_)
    refine sf_puti hI0 hs0 rfl rfl (sf_bd _) rfl rfl rfl (fun w7 Iw7 sw7 kw7 uw7 => ?_)
    clear kw7
    refine sf_aload rfl ?_
    refine sf_geti Iw7 rfl rfl (fun v8 lv8 uv8 ev8 => ?_)
    rw [uw7] at ev8
    refine sf_f1_le (fun h9 => absurd h9 (by omega)) (fun h9 => ?_)
    refine sf_lconst (by decide : (0 : Int64).toInt = 0) (fun z10 ez10 => ?_)
    refine sf_lreturn rfl rfl ?_
    exact hR _ _ Iw7 sw7 
  · refine sf_iload rfl ?_
    refine sf_iload rfl ?_
    refine sf_f2_gt (fun h11 => ?_) (fun h11 => ?_)
    · refine sf_iconst sf_c0 (fun z12 ez12 => ?_)
      refine sf_zreturn (by omega) rfl rfl ?_
      refine sf_f1_eq (fun h13 => ?_) (fun h13 => absurd h13 (by omega))
      refine sf_iconst sf_c1 (fun z14 ez14 => ?_)
      refine sf_puti hI0 hs0 rfl rfl (sf_bd _) rfl rfl rfl (fun w15 Iw15 sw15 kw15 uw15 => ?_)
      clear kw15
      refine sf_aload rfl ?_
      refine sf_geti Iw15 rfl rfl (fun v16 lv16 uv16 ev16 => ?_)
      rw [uw15] at ev16
      refine sf_f1_le (fun h17 => absurd h17 (by omega)) (fun h17 => ?_)
      refine sf_lconst (by decide : (0 : Int64).toInt = 0) (fun z18 ez18 => ?_)
      refine sf_lreturn rfl rfl ?_
      exact hR _ _ Iw15 sw15 
    · refine sf_iconst sf_c1 (fun z19 ez19 => ?_)
      refine sf_zreturn (by omega) rfl rfl ?_
      refine sf_f1_eq (fun h20 => absurd h20 (by omega)) (fun h20 => ?_)
      refine sf_iconst sf_c0 (fun z21 ez21 => ?_)
      refine sf_iload rfl ?_
      refine sf_call2 rfl rfl rfl ?_
      refine sf_sp (L := [(0, .inl (.int z21)), (1, .inl (.int a_units))]) rfl rfl ?_
      refine sf_iload rfl ?_
      refine sf_f1_eq (fun h22 => ?_) (fun h22 => absurd h22 (by omega))
      refine sf_iload rfl ?_
      refine sf_iconst sf_c1 (fun z23 ez23 => ?_)
      refine sf_f2_lt (fun h24 => ?_) (fun h24 => ?_)
      · refine sf_iconst sf_c0 (fun z25 ez25 => ?_)
        refine sf_zreturn (by omega) rfl rfl ?_
        refine sf_f1_eq (fun h26 => ?_) (fun h26 => absurd h26 (by omega))
        refine sf_iconst sf_c1 (fun z27 ez27 => ?_)
        refine sf_puti hI0 hs0 rfl rfl (sf_bd _) rfl rfl rfl (fun w28 Iw28 sw28 kw28 uw28 => ?_)
        clear kw28
        refine sf_aload rfl ?_
        refine sf_geti Iw28 rfl rfl (fun v29 lv29 uv29 ev29 => ?_)
        rw [uw28] at ev29
        refine sf_f1_le (fun h30 => absurd h30 (by omega)) (fun h30 => ?_)
        refine sf_lconst (by decide : (0 : Int64).toInt = 0) (fun z31 ez31 => ?_)
        refine sf_lreturn rfl rfl ?_
        exact hR _ _ Iw28 sw28 
      · refine sf_iload rfl ?_
        refine sf_iconst sf_c1000 (fun z32 ez32 => ?_)
        refine sf_f2_gt (fun h33 => ?_) (fun h33 => ?_)
        · refine sf_iconst sf_c0 (fun z34 ez34 => ?_)
          refine sf_zreturn (by omega) rfl rfl ?_
          refine sf_f1_eq (fun h35 => ?_) (fun h35 => absurd h35 (by omega))
          refine sf_iconst sf_c1 (fun z36 ez36 => ?_)
          refine sf_puti hI0 hs0 rfl rfl (sf_bd _) rfl rfl rfl (fun w37 Iw37 sw37 kw37 uw37 => ?_)
          clear kw37
          refine sf_aload rfl ?_
          refine sf_geti Iw37 rfl rfl (fun v38 lv38 uv38 ev38 => ?_)
          rw [uw37] at ev38
          refine sf_f1_le (fun h39 => absurd h39 (by omega)) (fun h39 => ?_)
          refine sf_lconst (by decide : (0 : Int64).toInt = 0) (fun z40 ez40 => ?_)
          refine sf_lreturn rfl rfl ?_
          exact hR _ _ Iw37 sw37 
        · refine sf_iconst sf_c1 (fun z41 ez41 => ?_)
          refine sf_zreturn (by omega) rfl rfl ?_
          refine sf_f1_eq (fun h42 => absurd h42 (by omega)) (fun h42 => ?_)
          refine sf_aload rfl ?_
          refine sf_iload rfl ?_
          refine sf_iconst sf_c1 (fun z43 ez43 => ?_)
          refine sf_call3 rfl rfl rfl ?_
          refine sf_rv hI0 rfl ?_
          refine sc_M_left hI0 (by omega) (by omega) (fun v44 => ?_)
          refine sf_iload rfl ?_
          refine sf_f2_ge (fun h46 => ?_) (fun h46 => ?_)
          · refine sf_iconst sf_c0 (fun z47 ez47 => ?_)
            refine sf_puti hI0 hs0 rfl rfl (sf_bd _) rfl rfl rfl (fun w48 Iw48 sw48 kw48 uw48 => ?_)
            clear kw48
            refine sf_aload rfl ?_
            refine sf_geti Iw48 rfl rfl (fun v49 lv49 uv49 ev49 => ?_)
            rw [uw48] at ev49
            refine sf_f1_le (fun h50 => ?_) (fun h50 => absurd h50 (by omega))
            refine sf_aload rfl ?_
            refine sf_iload rfl ?_
            refine sf_iload rfl ?_
            refine sf_iconst sf_c1 (fun z51 ez51 => ?_)
            refine sf_call4 rfl rfl rfl ?_
            refine sf_rv Iw48 rfl ?_
            refine sc_M_take Iw48 (by omega) (by omega) (fun v52 w53 Iw53 tw53 => ?_)
            have s55 := sf_mt sw48 tw53 rfl
            have c56 := sf_mf tw53 (p := 71) (j := 0) rfl
            refine sf_lstore (L' := [(0, .inl (.ref 71)), (1, .inl (.int a_good)), (2, .inl (.int a_units))]) rfl ?_
            refine sf_aload rfl ?_
            refine sf_getr Iw53 rfl rfl ?_
            refine sf_iload rfl ?_
            refine sf_aload rfl ?_
            refine sf_getr Iw53 rfl rfl ?_
            refine sf_iload rfl ?_
            refine sf_iald Iw53 rfl (by omega) (fun v57 lv57 uv57 ev57 => ?_)
            clear lv57 uv57
            clear ev57
            refine sf_iload rfl ?_
            refine sf_i2 (fun v58 => ?_)
            refine sf_iast Iw53 s55 rfl (by omega) (sf_bd _) rfl rfl (fun w59 Iw59 sw59 kw59 uw59 => ?_)
            have c60 := sf_mf kw59 (p := 71) (j := 0) rfl
            clear kw59 uw59
            refine sf_aload rfl ?_
            refine sf_aload rfl ?_
            refine sf_getl Iw59 rfl rfl (fun v61 => ?_)
            refine sf_lload rfl ?_
            refine sf_l2 (fun v62 => ?_)
            refine sf_putl Iw59 sw59 rfl rfl rfl rfl rfl (fun w63 Iw63 sw63 kw63 uw63 => ?_)
            have c64 := sf_mf kw63 (p := 71) (j := 0) rfl
            clear kw63 uw63
            refine sf_lload rfl ?_
            refine sf_lreturn rfl rfl ?_
            exact hR _ _ Iw63 sw63 
          · refine sf_iconst sf_c2 (fun z65 ez65 => ?_)
            refine sf_puti hI0 hs0 rfl rfl (sf_bd _) rfl rfl rfl (fun w66 Iw66 sw66 kw66 uw66 => ?_)
            clear kw66
            refine sf_aload rfl ?_
            refine sf_geti Iw66 rfl rfl (fun v67 lv67 uv67 ev67 => ?_)
            rw [uw66] at ev67
            refine sf_f1_le (fun h68 => absurd h68 (by omega)) (fun h68 => ?_)
            refine sf_lconst (by decide : (0 : Int64).toInt = 0) (fun z69 ez69 => ?_)
            refine sf_lreturn rfl rfl ?_
            exact hR _ _ Iw66 sw66 
def sm_M_export : List Nat := [71, 123, 8100, 8167]
set_option maxRecDepth 100000 in
set_option maxHeartbeats 4000000 in
theorem sc_M_export {w0 : wq_W} (hI0 : sf_I w0) {rt : Option wq_V → wq_W → Prop} {xt : Nat → wq_W → Prop} {a_good : Int32} {a_units : Int32}  (hR : ∀ (r : Int64) (w : wq_W), sf_I w → sf_m sm_M_export w0 w → rt (some (.inl (.long r))) w) : ks_M_export [.inl (.ref 71), .inl (.int a_good), .inl (.int a_units)] w0 rt xt := by
  have hs0 : sf_m sm_M_export w0 w0 := sf_m0
  refine sf_sp (L := [(0, .inl (.ref 71)), (1, .inl (.int a_good)), (2, .inl (.int a_units))]) rfl rfl ?_
  refine sf_aload rfl ?_
  refine sf_iload rfl ?_
  refine sf_iconst sf_c0 (fun z1 ez1 => ?_)
  refine sf_iconst sf_c15 (fun z2 ez2 => ?_)
  refine sf_call3 rfl rfl rfl ?_
  refine sf_sp (L := [(0, .inl (.int a_good)), (1, .inl (.int z1)), (2, .inl (.int z2))]) rfl rfl ?_
  refine sf_iload rfl ?_
  refine sf_iload rfl ?_
  refine sf_f2_lt (fun h3 => ?_) (fun h3 => ?_)
  · refine sf_iconst sf_c0 (fun z4 ez4 => ?_)
    refine sf_zreturn (by omega) rfl rfl ?_
    refine sf_f1_eq (fun h5 => ?_) (fun h5 => absurd h5 (by omega))
    refine sf_iconst sf_c1 (fun z6 ez6 => ?_)
    refine sf_puti hI0 hs0 rfl rfl (sf_bd _) rfl rfl rfl (fun w7 Iw7 sw7 kw7 uw7 => ?_)
    clear kw7
    refine sf_aload rfl ?_
    refine sf_geti Iw7 rfl rfl (fun v8 lv8 uv8 ev8 => ?_)
    rw [uw7] at ev8
    refine sf_f1_le (fun h9 => absurd h9 (by omega)) (fun h9 => ?_)
    refine sf_lconst (by decide : (0 : Int64).toInt = 0) (fun z10 ez10 => ?_)
    refine sf_lreturn rfl rfl ?_
    exact hR _ _ Iw7 sw7 
  · refine sf_iload rfl ?_
    refine sf_iload rfl ?_
    refine sf_f2_gt (fun h11 => ?_) (fun h11 => ?_)
    · refine sf_iconst sf_c0 (fun z12 ez12 => ?_)
      refine sf_zreturn (by omega) rfl rfl ?_
      refine sf_f1_eq (fun h13 => ?_) (fun h13 => absurd h13 (by omega))
      refine sf_iconst sf_c1 (fun z14 ez14 => ?_)
      refine sf_puti hI0 hs0 rfl rfl (sf_bd _) rfl rfl rfl (fun w15 Iw15 sw15 kw15 uw15 => ?_)
      clear kw15
      refine sf_aload rfl ?_
      refine sf_geti Iw15 rfl rfl (fun v16 lv16 uv16 ev16 => ?_)
      rw [uw15] at ev16
      refine sf_f1_le (fun h17 => absurd h17 (by omega)) (fun h17 => ?_)
      refine sf_lconst (by decide : (0 : Int64).toInt = 0) (fun z18 ez18 => ?_)
      refine sf_lreturn rfl rfl ?_
      exact hR _ _ Iw15 sw15 
    · refine sf_iconst sf_c1 (fun z19 ez19 => ?_)
      refine sf_zreturn (by omega) rfl rfl ?_
      refine sf_f1_eq (fun h20 => absurd h20 (by omega)) (fun h20 => ?_)
      refine sf_iconst sf_c0 (fun z21 ez21 => ?_)
      refine sf_iload rfl ?_
      refine sf_call2 rfl rfl rfl ?_
      refine sf_sp (L := [(0, .inl (.int z21)), (1, .inl (.int a_units))]) rfl rfl ?_
      refine sf_iload rfl ?_
      refine sf_f1_eq (fun h22 => ?_) (fun h22 => absurd h22 (by omega))
      refine sf_iload rfl ?_
      refine sf_iconst sf_c1 (fun z23 ez23 => ?_)
      refine sf_f2_lt (fun h24 => ?_) (fun h24 => ?_)
      · refine sf_iconst sf_c0 (fun z25 ez25 => ?_)
        refine sf_zreturn (by omega) rfl rfl ?_
        refine sf_f1_eq (fun h26 => ?_) (fun h26 => absurd h26 (by omega))
        refine sf_iconst sf_c1 (fun z27 ez27 => ?_)
        refine sf_puti hI0 hs0 rfl rfl (sf_bd _) rfl rfl rfl (fun w28 Iw28 sw28 kw28 uw28 => ?_)
        clear kw28
        refine sf_aload rfl ?_
        refine sf_geti Iw28 rfl rfl (fun v29 lv29 uv29 ev29 => ?_)
        rw [uw28] at ev29
        refine sf_f1_le (fun h30 => absurd h30 (by omega)) (fun h30 => ?_)
        refine sf_lconst (by decide : (0 : Int64).toInt = 0) (fun z31 ez31 => ?_)
        refine sf_lreturn rfl rfl ?_
        exact hR _ _ Iw28 sw28 
      · refine sf_iload rfl ?_
        refine sf_iconst sf_c1000 (fun z32 ez32 => ?_)
        refine sf_f2_gt (fun h33 => ?_) (fun h33 => ?_)
        · refine sf_iconst sf_c0 (fun z34 ez34 => ?_)
          refine sf_zreturn (by omega) rfl rfl ?_
          refine sf_f1_eq (fun h35 => ?_) (fun h35 => absurd h35 (by omega))
          refine sf_iconst sf_c1 (fun z36 ez36 => ?_)
          refine sf_puti hI0 hs0 rfl rfl (sf_bd _) rfl rfl rfl (fun w37 Iw37 sw37 kw37 uw37 => ?_)
          clear kw37
          refine sf_aload rfl ?_
          refine sf_geti Iw37 rfl rfl (fun v38 lv38 uv38 ev38 => ?_)
          rw [uw37] at ev38
          refine sf_f1_le (fun h39 => absurd h39 (by omega)) (fun h39 => ?_)
          refine sf_lconst (by decide : (0 : Int64).toInt = 0) (fun z40 ez40 => ?_)
          refine sf_lreturn rfl rfl ?_
          exact hR _ _ Iw37 sw37 
        · refine sf_iconst sf_c1 (fun z41 ez41 => ?_)
          refine sf_zreturn (by omega) rfl rfl ?_
          refine sf_f1_eq (fun h42 => absurd h42 (by omega)) (fun h42 => ?_)
          refine sf_aload rfl ?_
          refine sf_iload rfl ?_
          refine sf_iconst sf_c0 (fun z43 ez43 => ?_)
          refine sf_call3 rfl rfl rfl ?_
          refine sf_rv hI0 rfl ?_
          refine sc_M_left hI0 (by omega) (by omega) (fun v44 => ?_)
          refine sf_iload rfl ?_
          refine sf_f2_ge (fun h46 => ?_) (fun h46 => ?_)
          · refine sf_iconst sf_c0 (fun z47 ez47 => ?_)
            refine sf_puti hI0 hs0 rfl rfl (sf_bd _) rfl rfl rfl (fun w48 Iw48 sw48 kw48 uw48 => ?_)
            clear kw48
            refine sf_aload rfl ?_
            refine sf_geti Iw48 rfl rfl (fun v49 lv49 uv49 ev49 => ?_)
            rw [uw48] at ev49
            refine sf_f1_le (fun h50 => ?_) (fun h50 => absurd h50 (by omega))
            refine sf_aload rfl ?_
            refine sf_iload rfl ?_
            refine sf_iload rfl ?_
            refine sf_iconst sf_c0 (fun z51 ez51 => ?_)
            refine sf_call4 rfl rfl rfl ?_
            refine sf_rv Iw48 rfl ?_
            refine sc_M_take Iw48 (by omega) (by omega) (fun v52 w53 Iw53 tw53 => ?_)
            have s55 := sf_mt sw48 tw53 rfl
            have c56 := sf_mf tw53 (p := 71) (j := 0) rfl
            refine sf_lstore (L' := [(0, .inl (.ref 71)), (1, .inl (.int a_good)), (2, .inl (.int a_units))]) rfl ?_
            refine sf_aload rfl ?_
            refine sf_aload rfl ?_
            refine sf_getl Iw53 rfl rfl (fun v57 => ?_)
            refine sf_lload rfl ?_
            refine sf_l2 (fun v58 => ?_)
            refine sf_putl Iw53 s55 rfl rfl rfl rfl rfl (fun w59 Iw59 sw59 kw59 uw59 => ?_)
            have c60 := sf_mf kw59 (p := 71) (j := 0) rfl
            clear kw59 uw59
            refine sf_lload rfl ?_
            refine sf_lreturn rfl rfl ?_
            exact hR _ _ Iw59 sw59 
          · refine sf_iconst sf_c2 (fun z61 ez61 => ?_)
            refine sf_puti hI0 hs0 rfl rfl (sf_bd _) rfl rfl rfl (fun w62 Iw62 sw62 kw62 uw62 => ?_)
            clear kw62
            refine sf_aload rfl ?_
            refine sf_geti Iw62 rfl rfl (fun v63 lv63 uv63 ev63 => ?_)
            rw [uw62] at ev63
            refine sf_f1_le (fun h64 => absurd h64 (by omega)) (fun h64 => ?_)
            refine sf_lconst (by decide : (0 : Int64).toInt = 0) (fun z65 ez65 => ?_)
            refine sf_lreturn rfl rfl ?_
            exact hR _ _ Iw62 sw62 
def sm_M_work : List Nat := [71, 121, 122, 123, 124, 125, 126, 128, 129, 8100, 8156]
set_option maxRecDepth 100000 in
set_option maxHeartbeats 4000000 in
theorem sc_M_work {w0 : wq_W} (hI0 : sf_I w0) {rt : Option wq_V → wq_W → Prop} {xt : Nat → wq_W → Prop} {a_good : Int32} {a_units : Int32} {a_other : Int32} {a_many : Int32}  (hR : ∀ (r : Int32) (w : wq_W), sf_I w → sf_m sm_M_work w0 w → 0 ≤ r.toInt → r.toInt ≤ 40 → rt (some (.inl (.int r))) w) : ks_M_work [.inl (.ref 71), .inl (.int a_good), .inl (.int a_units), .inl (.int a_other), .inl (.int a_many)] w0 rt xt := by
  have hs0 : sf_m sm_M_work w0 w0 := sf_m0
  refine sf_sp (L := [(0, .inl (.ref 71)), (1, .inl (.int a_good)), (2, .inl (.int a_units)), (3, .inl (.int a_other)), (4, .inl (.int a_many))]) rfl rfl ?_
  refine sf_iload rfl ?_
  refine sf_iconst sf_c0 (fun z1 ez1 => ?_)
  refine sf_iconst sf_c15 (fun z2 ez2 => ?_)
  refine sf_call3 rfl rfl rfl ?_
  refine sf_sp (L := [(0, .inl (.int a_good)), (1, .inl (.int z1)), (2, .inl (.int z2))]) rfl rfl ?_
  refine sf_iload rfl ?_
  refine sf_iload rfl ?_
  refine sf_f2_lt (fun h3 => ?_) (fun h3 => ?_)
  · refine sf_iconst sf_c0 (fun z4 ez4 => ?_)
    refine sf_zreturn (by omega) rfl rfl ?_
    refine sf_f1_eq (fun h5 => ?_) (fun h5 => absurd h5 (by omega))
    refine sf_iconst sf_c0 (fun z6 ez6 => ?_)
    refine sf_istore (L' := [(0, .inl (.ref 71)), (1, .inl (.int a_good)), (2, .inl (.int a_units)), (3, .inl (.int a_other)), (4, .inl (.int a_many))]) rfl ?_
    refine sf_aload rfl ?_
    refine sf_iload rfl ?_
    refine sf_f1_eq (fun h7 => ?_) (fun h7 => absurd h7 (by omega))
    refine sf_iconst sf_c1 (fun z8 ez8 => ?_)
    refine sf_puti hI0 hs0 rfl rfl (sf_bd _) rfl rfl rfl (fun w9 Iw9 sw9 kw9 uw9 => ?_)
    have c10 := sf_mf kw9 (p := 71) (j := 56) rfl
    clear kw9
    refine sf_aload rfl ?_
    refine sf_geti Iw9 rfl rfl (fun v11 lv11 uv11 ev11 => ?_)
    rw [uw9] at ev11
    refine sf_f1_le (fun h12 => absurd h12 (by omega)) (fun h12 => ?_)
    refine sf_iconst sf_c0 (fun z13 ez13 => ?_)
    refine sf_ireturn rfl rfl ?_
    exact hR _ _ Iw9 sw9 (by omega) (by omega) 
  · refine sf_iload rfl ?_
    refine sf_iload rfl ?_
    refine sf_f2_gt (fun h14 => ?_) (fun h14 => ?_)
    · refine sf_iconst sf_c0 (fun z15 ez15 => ?_)
      refine sf_zreturn (by omega) rfl rfl ?_
      refine sf_f1_eq (fun h16 => ?_) (fun h16 => absurd h16 (by omega))
      refine sf_iconst sf_c0 (fun z17 ez17 => ?_)
      refine sf_istore (L' := [(0, .inl (.ref 71)), (1, .inl (.int a_good)), (2, .inl (.int a_units)), (3, .inl (.int a_other)), (4, .inl (.int a_many))]) rfl ?_
      refine sf_aload rfl ?_
      refine sf_iload rfl ?_
      refine sf_f1_eq (fun h18 => ?_) (fun h18 => absurd h18 (by omega))
      refine sf_iconst sf_c1 (fun z19 ez19 => ?_)
      refine sf_puti hI0 hs0 rfl rfl (sf_bd _) rfl rfl rfl (fun w20 Iw20 sw20 kw20 uw20 => ?_)
      have c21 := sf_mf kw20 (p := 71) (j := 56) rfl
      clear kw20
      refine sf_aload rfl ?_
      refine sf_geti Iw20 rfl rfl (fun v22 lv22 uv22 ev22 => ?_)
      rw [uw20] at ev22
      refine sf_f1_le (fun h23 => absurd h23 (by omega)) (fun h23 => ?_)
      refine sf_iconst sf_c0 (fun z24 ez24 => ?_)
      refine sf_ireturn rfl rfl ?_
      exact hR _ _ Iw20 sw20 (by omega) (by omega) 
    · refine sf_iconst sf_c1 (fun z25 ez25 => ?_)
      refine sf_zreturn (by omega) rfl rfl ?_
      refine sf_f1_eq (fun h26 => absurd h26 (by omega)) (fun h26 => ?_)
      refine sf_iload rfl ?_
      refine sf_iconst sf_c0 (fun z27 ez27 => ?_)
      refine sf_iconst sf_c15 (fun z28 ez28 => ?_)
      refine sf_call3 rfl rfl rfl ?_
      refine sf_sp (L := [(0, .inl (.int a_other)), (1, .inl (.int z27)), (2, .inl (.int z28))]) rfl rfl ?_
      refine sf_iload rfl ?_
      refine sf_iload rfl ?_
      refine sf_f2_lt (fun h29 => ?_) (fun h29 => ?_)
      · refine sf_iconst sf_c0 (fun z30 ez30 => ?_)
        refine sf_zreturn (by omega) rfl rfl ?_
        refine sf_f1_eq (fun h31 => ?_) (fun h31 => absurd h31 (by omega))
        refine sf_iconst sf_c0 (fun z32 ez32 => ?_)
        refine sf_istore (L' := [(0, .inl (.ref 71)), (1, .inl (.int a_good)), (2, .inl (.int a_units)), (3, .inl (.int a_other)), (4, .inl (.int a_many))]) rfl ?_
        refine sf_aload rfl ?_
        refine sf_iload rfl ?_
        refine sf_f1_eq (fun h33 => ?_) (fun h33 => absurd h33 (by omega))
        refine sf_iconst sf_c1 (fun z34 ez34 => ?_)
        refine sf_puti hI0 hs0 rfl rfl (sf_bd _) rfl rfl rfl (fun w35 Iw35 sw35 kw35 uw35 => ?_)
        have c36 := sf_mf kw35 (p := 71) (j := 56) rfl
        clear kw35
        refine sf_aload rfl ?_
        refine sf_geti Iw35 rfl rfl (fun v37 lv37 uv37 ev37 => ?_)
        rw [uw35] at ev37
        refine sf_f1_le (fun h38 => absurd h38 (by omega)) (fun h38 => ?_)
        refine sf_iconst sf_c0 (fun z39 ez39 => ?_)
        refine sf_ireturn rfl rfl ?_
        exact hR _ _ Iw35 sw35 (by omega) (by omega) 
      · refine sf_iload rfl ?_
        refine sf_iload rfl ?_
        refine sf_f2_gt (fun h40 => ?_) (fun h40 => ?_)
        · refine sf_iconst sf_c0 (fun z41 ez41 => ?_)
          refine sf_zreturn (by omega) rfl rfl ?_
          refine sf_f1_eq (fun h42 => ?_) (fun h42 => absurd h42 (by omega))
          refine sf_iconst sf_c0 (fun z43 ez43 => ?_)
          refine sf_istore (L' := [(0, .inl (.ref 71)), (1, .inl (.int a_good)), (2, .inl (.int a_units)), (3, .inl (.int a_other)), (4, .inl (.int a_many))]) rfl ?_
          refine sf_aload rfl ?_
          refine sf_iload rfl ?_
          refine sf_f1_eq (fun h44 => ?_) (fun h44 => absurd h44 (by omega))
          refine sf_iconst sf_c1 (fun z45 ez45 => ?_)
          refine sf_puti hI0 hs0 rfl rfl (sf_bd _) rfl rfl rfl (fun w46 Iw46 sw46 kw46 uw46 => ?_)
          have c47 := sf_mf kw46 (p := 71) (j := 56) rfl
          clear kw46
          refine sf_aload rfl ?_
          refine sf_geti Iw46 rfl rfl (fun v48 lv48 uv48 ev48 => ?_)
          rw [uw46] at ev48
          refine sf_f1_le (fun h49 => absurd h49 (by omega)) (fun h49 => ?_)
          refine sf_iconst sf_c0 (fun z50 ez50 => ?_)
          refine sf_ireturn rfl rfl ?_
          exact hR _ _ Iw46 sw46 (by omega) (by omega) 
        · refine sf_iconst sf_c1 (fun z51 ez51 => ?_)
          refine sf_zreturn (by omega) rfl rfl ?_
          refine sf_f1_eq (fun h52 => absurd h52 (by omega)) (fun h52 => ?_)
          refine sf_iload rfl ?_
          refine sf_iload rfl ?_
          refine sf_f2_eq (fun h53 => ?_) (fun h53 => ?_)
          · refine sf_iconst sf_c0 (fun z54 ez54 => ?_)
            refine sf_istore (L' := [(0, .inl (.ref 71)), (1, .inl (.int a_good)), (2, .inl (.int a_units)), (3, .inl (.int a_other)), (4, .inl (.int a_many))]) rfl ?_
            refine sf_aload rfl ?_
            refine sf_iload rfl ?_
            refine sf_f1_eq (fun h55 => ?_) (fun h55 => absurd h55 (by omega))
            refine sf_iconst sf_c1 (fun z56 ez56 => ?_)
            refine sf_puti hI0 hs0 rfl rfl (sf_bd _) rfl rfl rfl (fun w57 Iw57 sw57 kw57 uw57 => ?_)
            have c58 := sf_mf kw57 (p := 71) (j := 56) rfl
            clear kw57
            refine sf_aload rfl ?_
            refine sf_geti Iw57 rfl rfl (fun v59 lv59 uv59 ev59 => ?_)
            rw [uw57] at ev59
            refine sf_f1_le (fun h60 => absurd h60 (by omega)) (fun h60 => ?_)
            refine sf_iconst sf_c0 (fun z61 ez61 => ?_)
            refine sf_ireturn rfl rfl ?_
            exact hR _ _ Iw57 sw57 (by omega) (by omega) 
          · refine sf_iload rfl ?_
            refine sf_iconst sf_c1 (fun z62 ez62 => ?_)
            refine sf_f2_lt (fun h63 => ?_) (fun h63 => ?_)
            · refine sf_iconst sf_c0 (fun z64 ez64 => ?_)
              refine sf_istore (L' := [(0, .inl (.ref 71)), (1, .inl (.int a_good)), (2, .inl (.int a_units)), (3, .inl (.int a_other)), (4, .inl (.int a_many))]) rfl ?_
              refine sf_aload rfl ?_
              refine sf_iload rfl ?_
              refine sf_f1_eq (fun h65 => ?_) (fun h65 => absurd h65 (by omega))
              refine sf_iconst sf_c1 (fun z66 ez66 => ?_)
              refine sf_puti hI0 hs0 rfl rfl (sf_bd _) rfl rfl rfl (fun w67 Iw67 sw67 kw67 uw67 => ?_)
              have c68 := sf_mf kw67 (p := 71) (j := 56) rfl
              clear kw67
              refine sf_aload rfl ?_
              refine sf_geti Iw67 rfl rfl (fun v69 lv69 uv69 ev69 => ?_)
              rw [uw67] at ev69
              refine sf_f1_le (fun h70 => absurd h70 (by omega)) (fun h70 => ?_)
              refine sf_iconst sf_c0 (fun z71 ez71 => ?_)
              refine sf_ireturn rfl rfl ?_
              exact hR _ _ Iw67 sw67 (by omega) (by omega) 
            · refine sf_iload rfl ?_
              refine sf_iload rfl ?_
              refine sf_f2_gt (fun h72 => ?_) (fun h72 => ?_)
              · refine sf_iconst sf_c0 (fun z73 ez73 => ?_)
                refine sf_istore (L' := [(0, .inl (.ref 71)), (1, .inl (.int a_good)), (2, .inl (.int a_units)), (3, .inl (.int a_other)), (4, .inl (.int a_many))]) rfl ?_
                refine sf_aload rfl ?_
                refine sf_iload rfl ?_
                refine sf_f1_eq (fun h74 => ?_) (fun h74 => absurd h74 (by omega))
                refine sf_iconst sf_c1 (fun z75 ez75 => ?_)
                refine sf_puti hI0 hs0 rfl rfl (sf_bd _) rfl rfl rfl (fun w76 Iw76 sw76 kw76 uw76 => ?_)
                have c77 := sf_mf kw76 (p := 71) (j := 56) rfl
                clear kw76
                refine sf_aload rfl ?_
                refine sf_geti Iw76 rfl rfl (fun v78 lv78 uv78 ev78 => ?_)
                rw [uw76] at ev78
                refine sf_f1_le (fun h79 => absurd h79 (by omega)) (fun h79 => ?_)
                refine sf_iconst sf_c0 (fun z80 ez80 => ?_)
                refine sf_ireturn rfl rfl ?_
                exact hR _ _ Iw76 sw76 (by omega) (by omega) 
              · refine sf_iload rfl ?_
                refine sf_iconst sf_c1000 (fun z81 ez81 => ?_)
                refine sf_f2_gt (fun h82 => ?_) (fun h82 => ?_)
                · refine sf_iconst sf_c0 (fun z83 ez83 => ?_)
                  refine sf_istore (L' := [(0, .inl (.ref 71)), (1, .inl (.int a_good)), (2, .inl (.int a_units)), (3, .inl (.int a_other)), (4, .inl (.int a_many))]) rfl ?_
                  refine sf_aload rfl ?_
                  refine sf_iload rfl ?_
                  refine sf_f1_eq (fun h84 => ?_) (fun h84 => absurd h84 (by omega))
                  refine sf_iconst sf_c1 (fun z85 ez85 => ?_)
                  refine sf_puti hI0 hs0 rfl rfl (sf_bd _) rfl rfl rfl (fun w86 Iw86 sw86 kw86 uw86 => ?_)
                  have c87 := sf_mf kw86 (p := 71) (j := 56) rfl
                  clear kw86
                  refine sf_aload rfl ?_
                  refine sf_geti Iw86 rfl rfl (fun v88 lv88 uv88 ev88 => ?_)
                  rw [uw86] at ev88
                  refine sf_f1_le (fun h89 => absurd h89 (by omega)) (fun h89 => ?_)
                  refine sf_iconst sf_c0 (fun z90 ez90 => ?_)
                  refine sf_ireturn rfl rfl ?_
                  exact hR _ _ Iw86 sw86 (by omega) (by omega) 
                · refine sf_iconst sf_c1 (fun z91 ez91 => ?_)
                  refine sf_istore (L' := [(0, .inl (.ref 71)), (1, .inl (.int a_good)), (2, .inl (.int a_units)), (3, .inl (.int a_other)), (4, .inl (.int a_many))]) rfl ?_
                  refine sf_aload rfl ?_
                  refine sf_iload rfl ?_
                  refine sf_f1_eq (fun h92 => absurd h92 (by omega)) (fun h92 => ?_)
                  refine sf_aload rfl ?_
                  refine sf_iload rfl ?_
                  refine sf_iconst sf_c1 (fun z93 ez93 => ?_)
                  refine sf_call3 rfl rfl rfl ?_
                  refine sf_rv hI0 rfl ?_
                  refine sc_M_left hI0 (by omega) (by omega) (fun v94 => ?_)
                  refine sf_iload rfl ?_
                  refine sf_f2_ge (fun h96 => ?_) (fun h96 => ?_)
                  · refine sf_aload rfl ?_
                    refine sf_geti hI0 rfl rfl (fun v97 lv97 uv97 ev97 => ?_)
                    refine sf_iconst sf_c40 (fun z98 ez98 => ?_)
                    refine sf_f2_eq (fun h99 => ?_) (fun h99 => ?_)
                    · refine sf_iconst sf_c3 (fun z100 ez100 => ?_)
                      refine sf_puti hI0 hs0 rfl rfl (sf_bd _) rfl rfl rfl (fun w101 Iw101 sw101 kw101 uw101 => ?_)
                      have c102 := sf_mf kw101 (p := 71) (j := 56) rfl
                      clear kw101
                      refine sf_aload rfl ?_
                      refine sf_geti Iw101 rfl rfl (fun v103 lv103 uv103 ev103 => ?_)
                      rw [uw101] at ev103
                      refine sf_f1_le (fun h104 => absurd h104 (by omega)) (fun h104 => ?_)
                      refine sf_iconst sf_c0 (fun z105 ez105 => ?_)
                      refine sf_ireturn rfl rfl ?_
                      exact hR _ _ Iw101 sw101 (by omega) (by omega) 
                    · refine sf_iconst sf_c0 (fun z106 ez106 => ?_)
                      refine sf_puti hI0 hs0 rfl rfl (sf_bd _) rfl rfl rfl (fun w107 Iw107 sw107 kw107 uw107 => ?_)
                      have c108 := sf_mf kw107 (p := 71) (j := 56) rfl
                      clear kw107
                      refine sf_aload rfl ?_
                      refine sf_geti Iw107 rfl rfl (fun v109 lv109 uv109 ev109 => ?_)
                      rw [uw107] at ev109
                      refine sf_f1_le (fun h110 => ?_) (fun h110 => absurd h110 (by omega))
                      refine sf_aload rfl ?_
                      refine sf_iload rfl ?_
                      refine sf_iload rfl ?_
                      refine sf_iconst sf_c1 (fun z111 ez111 => ?_)
                      refine sf_call4 rfl rfl rfl ?_
                      refine sf_rv Iw107 rfl ?_
                      refine sc_M_take Iw107 (by omega) (by omega) (fun v112 w113 Iw113 tw113 => ?_)
                      have s115 := sf_mt sw107 tw113 rfl
                      have c116 := sf_mf tw113 (p := 71) (j := 0) rfl
                      have c117 := sf_mf tw113 (p := 71) (j := 56) rfl
                      refine sf_lstore (L' := [(5, .inl (.int z91)), (0, .inl (.ref 71)), (1, .inl (.int a_good)), (2, .inl (.int a_units)), (3, .inl (.int a_other)), (4, .inl (.int a_many))]) rfl ?_
                      refine sf_aload rfl ?_
                      refine sf_getr Iw113 rfl rfl ?_
                      refine sf_iload rfl ?_
                      refine sf_aload rfl ?_
                      refine sf_getr Iw113 rfl rfl ?_
                      refine sf_iload rfl ?_
                      refine sf_iald Iw113 rfl (by omega) (fun v118 lv118 uv118 ev118 => ?_)
                      clear lv118 uv118
                      clear ev118
                      refine sf_iload rfl ?_
                      refine sf_i2 (fun v119 => ?_)
                      refine sf_iast Iw113 s115 rfl (by omega) (sf_bd _) rfl rfl (fun w120 Iw120 sw120 kw120 uw120 => ?_)
                      have c121 := sf_mf kw120 (p := 71) (j := 0) rfl
                      have c122 := sf_mf kw120 (p := 71) (j := 56) rfl
                      clear kw120 uw120
                      refine sf_aload rfl ?_
                      refine sf_getr Iw120 rfl rfl ?_
                      refine sf_iload rfl ?_
                      refine sf_aload rfl ?_
                      refine sf_getr Iw120 rfl rfl ?_
                      refine sf_iload rfl ?_
                      refine sf_iald Iw120 rfl (by omega) (fun v123 lv123 uv123 ev123 => ?_)
                      clear lv123 uv123
                      clear ev123
                      refine sf_iload rfl ?_
                      refine sf_i2 (fun v124 => ?_)
                      refine sf_iload rfl ?_
                      refine sf_i2 (fun v125 => ?_)
                      refine sf_iast Iw120 sw120 rfl (by omega) (sf_bd _) rfl rfl (fun w126 Iw126 sw126 kw126 uw126 => ?_)
                      have c127 := sf_mf kw126 (p := 71) (j := 0) rfl
                      have c128 := sf_mf kw126 (p := 71) (j := 56) rfl
                      clear kw126 uw126
                      refine sf_aload rfl ?_
                      refine sf_iload rfl ?_
                      refine sf_iload rfl ?_
                      refine sf_lload rfl ?_
                      refine sf_iconst sf_c1 (fun z129 ez129 => ?_)
                      refine sf_iconst sf_c1 (fun z130 ez130 => ?_)
                      refine sf_call6 rfl rfl rfl ?_
                      refine sf_rv Iw126 rfl ?_
                      refine sc_M_addLot Iw126 (by omega) (by omega) (by omega) (by omega) (by rw [c128, c122, c117, c108]; omega) (fun v131 w132 Iw132 tw132 lv131 uv131 q133_0 q133_1 => ?_)
                      rw [c128, c122, c117, c108] at q133_0
                      rw [c128, c122, c117, c108] at q133_1
                      have s134 := sf_mt sw126 tw132 rfl
                      have c135 := sf_mf tw132 (p := 71) (j := 0) rfl
                      refine sf_ireturn rfl rfl ?_
                      exact hR _ _ Iw132 s134 (by omega) (by omega) 
                  · refine sf_iconst sf_c2 (fun z136 ez136 => ?_)
                    refine sf_puti hI0 hs0 rfl rfl (sf_bd _) rfl rfl rfl (fun w137 Iw137 sw137 kw137 uw137 => ?_)
                    have c138 := sf_mf kw137 (p := 71) (j := 56) rfl
                    clear kw137
                    refine sf_aload rfl ?_
                    refine sf_geti Iw137 rfl rfl (fun v139 lv139 uv139 ev139 => ?_)
                    rw [uw137] at ev139
                    refine sf_f1_le (fun h140 => absurd h140 (by omega)) (fun h140 => ?_)
                    refine sf_iconst sf_c0 (fun z141 ez141 => ?_)
                    refine sf_ireturn rfl rfl ?_
                    exact hR _ _ Iw137 sw137 (by omega) (by omega) 
def sm_M_lot : List Nat := [71, 8100]
set_option maxRecDepth 100000 in
set_option maxHeartbeats 4000000 in
theorem sc_M_lot {w0 : wq_W} (hI0 : sf_I w0) {rt : Option wq_V → wq_W → Prop} {xt : Nat → wq_W → Prop} {a_k : Int32} {a_what : Int32}  (hR : ∀ (r : Int64) (w : wq_W), sf_I w → sf_m sm_M_lot w0 w → rt (some (.inl (.long r))) w) : ks_M_lot [.inl (.ref 71), .inl (.int a_k), .inl (.int a_what)] w0 rt xt := by
  have hs0 : sf_m sm_M_lot w0 w0 := sf_m0
  refine sf_sp (L := [(0, .inl (.ref 71)), (1, .inl (.int a_k)), (2, .inl (.int a_what))]) rfl rfl ?_
  refine sf_aload rfl ?_
  refine sf_iload rfl ?_
  refine sf_f1_lt (fun h1 => ?_) (fun h1 => ?_)
  · refine sf_iconst sf_c1 (fun z2 ez2 => ?_)
    refine sf_puti hI0 hs0 rfl rfl (sf_bd _) rfl rfl rfl (fun w3 Iw3 sw3 kw3 uw3 => ?_)
    clear kw3
    refine sf_aload rfl ?_
    refine sf_geti Iw3 rfl rfl (fun v4 lv4 uv4 ev4 => ?_)
    rw [uw3] at ev4
    refine sf_f1_le (fun h5 => absurd h5 (by omega)) (fun h5 => ?_)
    refine sf_lconst (by decide : (0 : Int64).toInt = 0) (fun z6 ez6 => ?_)
    refine sf_lreturn rfl rfl ?_
    exact hR _ _ Iw3 sw3 
  · refine sf_iload rfl ?_
    refine sf_aload rfl ?_
    refine sf_geti hI0 rfl rfl (fun v7 lv7 uv7 ev7 => ?_)
    refine sf_f2_ge (fun h8 => ?_) (fun h8 => ?_)
    · refine sf_iconst sf_c1 (fun z9 ez9 => ?_)
      refine sf_puti hI0 hs0 rfl rfl (sf_bd _) rfl rfl rfl (fun w10 Iw10 sw10 kw10 uw10 => ?_)
      clear kw10
      refine sf_aload rfl ?_
      refine sf_geti Iw10 rfl rfl (fun v11 lv11 uv11 ev11 => ?_)
      rw [uw10] at ev11
      refine sf_f1_le (fun h12 => absurd h12 (by omega)) (fun h12 => ?_)
      refine sf_lconst (by decide : (0 : Int64).toInt = 0) (fun z13 ez13 => ?_)
      refine sf_lreturn rfl rfl ?_
      exact hR _ _ Iw10 sw10 
    · refine sf_iload rfl ?_
      refine sf_iconst sf_c0 (fun z14 ez14 => ?_)
      refine sf_iconst sf_c4 (fun z15 ez15 => ?_)
      refine sf_call3 rfl rfl rfl ?_
      refine sf_sp (L := [(0, .inl (.int a_what)), (1, .inl (.int z14)), (2, .inl (.int z15))]) rfl rfl ?_
      refine sf_iload rfl ?_
      refine sf_iload rfl ?_
      refine sf_f2_lt (fun h16 => ?_) (fun h16 => ?_)
      · refine sf_iconst sf_c0 (fun z17 ez17 => ?_)
        refine sf_zreturn (by omega) rfl rfl ?_
        refine sf_f1_eq (fun h18 => ?_) (fun h18 => absurd h18 (by omega))
        refine sf_iconst sf_c1 (fun z19 ez19 => ?_)
        refine sf_puti hI0 hs0 rfl rfl (sf_bd _) rfl rfl rfl (fun w20 Iw20 sw20 kw20 uw20 => ?_)
        clear kw20
        refine sf_aload rfl ?_
        refine sf_geti Iw20 rfl rfl (fun v21 lv21 uv21 ev21 => ?_)
        rw [uw20] at ev21
        refine sf_f1_le (fun h22 => absurd h22 (by omega)) (fun h22 => ?_)
        refine sf_lconst (by decide : (0 : Int64).toInt = 0) (fun z23 ez23 => ?_)
        refine sf_lreturn rfl rfl ?_
        exact hR _ _ Iw20 sw20 
      · refine sf_iload rfl ?_
        refine sf_iload rfl ?_
        refine sf_f2_gt (fun h24 => ?_) (fun h24 => ?_)
        · refine sf_iconst sf_c0 (fun z25 ez25 => ?_)
          refine sf_zreturn (by omega) rfl rfl ?_
          refine sf_f1_eq (fun h26 => ?_) (fun h26 => absurd h26 (by omega))
          refine sf_iconst sf_c1 (fun z27 ez27 => ?_)
          refine sf_puti hI0 hs0 rfl rfl (sf_bd _) rfl rfl rfl (fun w28 Iw28 sw28 kw28 uw28 => ?_)
          clear kw28
          refine sf_aload rfl ?_
          refine sf_geti Iw28 rfl rfl (fun v29 lv29 uv29 ev29 => ?_)
          rw [uw28] at ev29
          refine sf_f1_le (fun h30 => absurd h30 (by omega)) (fun h30 => ?_)
          refine sf_lconst (by decide : (0 : Int64).toInt = 0) (fun z31 ez31 => ?_)
          refine sf_lreturn rfl rfl ?_
          exact hR _ _ Iw28 sw28 
        · refine sf_iconst sf_c1 (fun z32 ez32 => ?_)
          refine sf_zreturn (by omega) rfl rfl ?_
          refine sf_f1_eq (fun h33 => absurd h33 (by omega)) (fun h33 => ?_)
          refine sf_iconst sf_c0 (fun z34 ez34 => ?_)
          refine sf_puti hI0 hs0 rfl rfl (sf_bd _) rfl rfl rfl (fun w35 Iw35 sw35 kw35 uw35 => ?_)
          clear kw35
          refine sf_aload rfl ?_
          refine sf_geti Iw35 rfl rfl (fun v36 lv36 uv36 ev36 => ?_)
          rw [uw35] at ev36
          refine sf_f1_le (fun h37 => ?_) (fun h37 => absurd h37 (by omega))
          refine sf_iload rfl ?_
          refine sf_sw1 sf_c0 (fun h38 => ?_) (fun h38 => ?_)
          · refine sf_aload rfl ?_
            refine sf_getr Iw35 rfl rfl ?_
            refine sf_iload rfl ?_
            refine sf_iald Iw35 rfl (by omega) (fun v39 lv39 uv39 ev39 => ?_)
            clear lv39 uv39
            clear ev39
            refine sf_i2lb (fun v40 ev40 lv40 uv40 => ?_)
            refine sf_lreturn rfl rfl ?_
            exact hR _ _ Iw35 sw35 
          · refine sf_sw1 sf_c1 (fun h41 => ?_) (fun h41 => ?_)
            · refine sf_aload rfl ?_
              refine sf_getr Iw35 rfl rfl ?_
              refine sf_iload rfl ?_
              refine sf_iald Iw35 rfl (by omega) (fun v42 lv42 uv42 ev42 => ?_)
              rw [sf_ma sw35 (p := 122) rfl] at ev42
              refine sf_i2lb (fun v43 ev43 lv43 uv43 => ?_)
              refine sf_lreturn rfl rfl ?_
              exact hR _ _ Iw35 sw35 
            · refine sf_sw1 sf_c2 (fun h44 => ?_) (fun h44 => ?_)
              · refine sf_aload rfl ?_
                refine sf_getr Iw35 rfl rfl ?_
                refine sf_iload rfl ?_
                refine sf_iald Iw35 rfl (by omega) (fun v45 lv45 uv45 ev45 => ?_)
                rw [sf_ma sw35 (p := 123) rfl] at ev45
                refine sf_i2l (fun v46 ev46 => ?_)
                refine sf_lreturn rfl rfl ?_
                exact hR _ _ Iw35 sw35 
              · refine sf_sw1 sf_c3 (fun h47 => ?_) (fun h47 => ?_)
                · refine sf_aload rfl ?_
                  refine sf_getr Iw35 rfl rfl ?_
                  refine sf_iload rfl ?_
                  refine sf_lald Iw35 rfl (by omega) (fun v48 ev48 => ?_)
                  clear ev48
                  refine sf_lreturn rfl rfl ?_
                  exact hR _ _ Iw35 sw35 
                · refine sf_sw0 ?_
                  refine sf_aload rfl ?_
                  refine sf_getr Iw35 rfl rfl ?_
                  refine sf_iload rfl ?_
                  refine sf_zald Iw35 rfl (by omega) (fun v49 lv49 uv49 ev49 => ?_)
                  clear ev49
                  refine sf_f1_eq (fun h50 => ?_) (fun h50 => ?_)
                  · refine sf_lconst (by decide : (0 : Int64).toInt = 0) (fun z51 ez51 => ?_)
                    refine sf_lreturn rfl rfl ?_
                    exact hR _ _ Iw35 sw35 
                  · refine sf_lconst (by decide : (1 : Int64).toInt = 1) (fun z52 ez52 => ?_)
                    refine sf_lreturn rfl rfl ?_
                    exact hR _ _ Iw35 sw35 
def sm_M_account : List Nat := [71, 8100]
set_option maxRecDepth 100000 in
set_option maxHeartbeats 4000000 in
theorem sc_M_account {w0 : wq_W} (hI0 : sf_I w0) {rt : Option wq_V → wq_W → Prop} {xt : Nat → wq_W → Prop} {a_good : Int32} {a_what : Int32}  (hR : ∀ (r : Int64) (w : wq_W), sf_I w → sf_m sm_M_account w0 w → rt (some (.inl (.long r))) w) : ks_M_account [.inl (.ref 71), .inl (.int a_good), .inl (.int a_what)] w0 rt xt := by
  have hs0 : sf_m sm_M_account w0 w0 := sf_m0
  refine sf_sp (L := [(0, .inl (.ref 71)), (1, .inl (.int a_good)), (2, .inl (.int a_what))]) rfl rfl ?_
  refine sf_aload rfl ?_
  refine sf_iload rfl ?_
  refine sf_iconst sf_c0 (fun z1 ez1 => ?_)
  refine sf_iconst sf_c15 (fun z2 ez2 => ?_)
  refine sf_call3 rfl rfl rfl ?_
  refine sf_sp (L := [(0, .inl (.int a_good)), (1, .inl (.int z1)), (2, .inl (.int z2))]) rfl rfl ?_
  refine sf_iload rfl ?_
  refine sf_iload rfl ?_
  refine sf_f2_lt (fun h3 => ?_) (fun h3 => ?_)
  · refine sf_iconst sf_c0 (fun z4 ez4 => ?_)
    refine sf_zreturn (by omega) rfl rfl ?_
    refine sf_f1_eq (fun h5 => ?_) (fun h5 => absurd h5 (by omega))
    refine sf_iconst sf_c1 (fun z6 ez6 => ?_)
    refine sf_puti hI0 hs0 rfl rfl (sf_bd _) rfl rfl rfl (fun w7 Iw7 sw7 kw7 uw7 => ?_)
    clear kw7
    refine sf_aload rfl ?_
    refine sf_geti Iw7 rfl rfl (fun v8 lv8 uv8 ev8 => ?_)
    rw [uw7] at ev8
    refine sf_f1_le (fun h9 => absurd h9 (by omega)) (fun h9 => ?_)
    refine sf_lconst (by decide : (0 : Int64).toInt = 0) (fun z10 ez10 => ?_)
    refine sf_lreturn rfl rfl ?_
    exact hR _ _ Iw7 sw7 
  · refine sf_iload rfl ?_
    refine sf_iload rfl ?_
    refine sf_f2_gt (fun h11 => ?_) (fun h11 => ?_)
    · refine sf_iconst sf_c0 (fun z12 ez12 => ?_)
      refine sf_zreturn (by omega) rfl rfl ?_
      refine sf_f1_eq (fun h13 => ?_) (fun h13 => absurd h13 (by omega))
      refine sf_iconst sf_c1 (fun z14 ez14 => ?_)
      refine sf_puti hI0 hs0 rfl rfl (sf_bd _) rfl rfl rfl (fun w15 Iw15 sw15 kw15 uw15 => ?_)
      clear kw15
      refine sf_aload rfl ?_
      refine sf_geti Iw15 rfl rfl (fun v16 lv16 uv16 ev16 => ?_)
      rw [uw15] at ev16
      refine sf_f1_le (fun h17 => absurd h17 (by omega)) (fun h17 => ?_)
      refine sf_lconst (by decide : (0 : Int64).toInt = 0) (fun z18 ez18 => ?_)
      refine sf_lreturn rfl rfl ?_
      exact hR _ _ Iw15 sw15 
    · refine sf_iconst sf_c1 (fun z19 ez19 => ?_)
      refine sf_zreturn (by omega) rfl rfl ?_
      refine sf_f1_eq (fun h20 => absurd h20 (by omega)) (fun h20 => ?_)
      refine sf_iload rfl ?_
      refine sf_iconst sf_c0 (fun z21 ez21 => ?_)
      refine sf_iconst sf_c5 (fun z22 ez22 => ?_)
      refine sf_call3 rfl rfl rfl ?_
      refine sf_sp (L := [(0, .inl (.int a_what)), (1, .inl (.int z21)), (2, .inl (.int z22))]) rfl rfl ?_
      refine sf_iload rfl ?_
      refine sf_iload rfl ?_
      refine sf_f2_lt (fun h23 => ?_) (fun h23 => ?_)
      · refine sf_iconst sf_c0 (fun z24 ez24 => ?_)
        refine sf_zreturn (by omega) rfl rfl ?_
        refine sf_f1_eq (fun h25 => ?_) (fun h25 => absurd h25 (by omega))
        refine sf_iconst sf_c1 (fun z26 ez26 => ?_)
        refine sf_puti hI0 hs0 rfl rfl (sf_bd _) rfl rfl rfl (fun w27 Iw27 sw27 kw27 uw27 => ?_)
        clear kw27
        refine sf_aload rfl ?_
        refine sf_geti Iw27 rfl rfl (fun v28 lv28 uv28 ev28 => ?_)
        rw [uw27] at ev28
        refine sf_f1_le (fun h29 => absurd h29 (by omega)) (fun h29 => ?_)
        refine sf_lconst (by decide : (0 : Int64).toInt = 0) (fun z30 ez30 => ?_)
        refine sf_lreturn rfl rfl ?_
        exact hR _ _ Iw27 sw27 
      · refine sf_iload rfl ?_
        refine sf_iload rfl ?_
        refine sf_f2_gt (fun h31 => ?_) (fun h31 => ?_)
        · refine sf_iconst sf_c0 (fun z32 ez32 => ?_)
          refine sf_zreturn (by omega) rfl rfl ?_
          refine sf_f1_eq (fun h33 => ?_) (fun h33 => absurd h33 (by omega))
          refine sf_iconst sf_c1 (fun z34 ez34 => ?_)
          refine sf_puti hI0 hs0 rfl rfl (sf_bd _) rfl rfl rfl (fun w35 Iw35 sw35 kw35 uw35 => ?_)
          clear kw35
          refine sf_aload rfl ?_
          refine sf_geti Iw35 rfl rfl (fun v36 lv36 uv36 ev36 => ?_)
          rw [uw35] at ev36
          refine sf_f1_le (fun h37 => absurd h37 (by omega)) (fun h37 => ?_)
          refine sf_lconst (by decide : (0 : Int64).toInt = 0) (fun z38 ez38 => ?_)
          refine sf_lreturn rfl rfl ?_
          exact hR _ _ Iw35 sw35 
        · refine sf_iconst sf_c1 (fun z39 ez39 => ?_)
          refine sf_zreturn (by omega) rfl rfl ?_
          refine sf_f1_eq (fun h40 => absurd h40 (by omega)) (fun h40 => ?_)
          refine sf_iconst sf_c0 (fun z41 ez41 => ?_)
          refine sf_puti hI0 hs0 rfl rfl (sf_bd _) rfl rfl rfl (fun w42 Iw42 sw42 kw42 uw42 => ?_)
          clear kw42
          refine sf_aload rfl ?_
          refine sf_geti Iw42 rfl rfl (fun v43 lv43 uv43 ev43 => ?_)
          rw [uw42] at ev43
          refine sf_f1_le (fun h44 => ?_) (fun h44 => absurd h44 (by omega))
          refine sf_iload rfl ?_
          refine sf_sw1 sf_c0 (fun h45 => ?_) (fun h45 => ?_)
          · refine sf_aload rfl ?_
            refine sf_iload rfl ?_
            refine sf_iconst sf_c0 (fun z46 ez46 => ?_)
            refine sf_call3 rfl rfl rfl ?_
            refine sf_rv Iw42 rfl ?_
            refine sc_M_came Iw42 (by omega) (by omega) (fun v47 => ?_)
            refine sf_i2lb (fun v49 ev49 lv49 uv49 => ?_)
            refine sf_lreturn rfl rfl ?_
            exact hR _ _ Iw42 sw42 
          · refine sf_sw1 sf_c1 (fun h50 => ?_) (fun h50 => ?_)
            · refine sf_aload rfl ?_
              refine sf_iload rfl ?_
              refine sf_iconst sf_c1 (fun z51 ez51 => ?_)
              refine sf_call3 rfl rfl rfl ?_
              refine sf_rv Iw42 rfl ?_
              refine sc_M_came Iw42 (by omega) (by omega) (fun v52 => ?_)
              refine sf_i2lb (fun v54 ev54 lv54 uv54 => ?_)
              refine sf_lreturn rfl rfl ?_
              exact hR _ _ Iw42 sw42 
            · refine sf_sw1 sf_c2 (fun h55 => ?_) (fun h55 => ?_)
              · refine sf_aload rfl ?_
                refine sf_getr Iw42 rfl rfl ?_
                refine sf_iload rfl ?_
                refine sf_iald Iw42 rfl (by omega) (fun v56 lv56 uv56 ev56 => ?_)
                clear lv56 uv56
                clear ev56
                refine sf_i2lb (fun v57 ev57 lv57 uv57 => ?_)
                refine sf_lreturn rfl rfl ?_
                exact hR _ _ Iw42 sw42 
              · refine sf_sw1 sf_c3 (fun h58 => ?_) (fun h58 => ?_)
                · refine sf_aload rfl ?_
                  refine sf_getr Iw42 rfl rfl ?_
                  refine sf_iload rfl ?_
                  refine sf_iald Iw42 rfl (by omega) (fun v59 lv59 uv59 ev59 => ?_)
                  clear lv59 uv59
                  clear ev59
                  refine sf_i2lb (fun v60 ev60 lv60 uv60 => ?_)
                  refine sf_lreturn rfl rfl ?_
                  exact hR _ _ Iw42 sw42 
                · refine sf_sw1 sf_c4 (fun h61 => ?_) (fun h61 => ?_)
                  · refine sf_aload rfl ?_
                    refine sf_getr Iw42 rfl rfl ?_
                    refine sf_iload rfl ?_
                    refine sf_iald Iw42 rfl (by omega) (fun v62 lv62 uv62 ev62 => ?_)
                    clear lv62 uv62
                    clear ev62
                    refine sf_i2lb (fun v63 ev63 lv63 uv63 => ?_)
                    refine sf_lreturn rfl rfl ?_
                    exact hR _ _ Iw42 sw42 
                  · refine sf_sw0 ?_
                    refine sf_aload rfl ?_
                    refine sf_iload rfl ?_
                    refine sf_iconst sf_c1 (fun z64 ez64 => ?_)
                    refine sf_call3 rfl rfl rfl ?_
                    refine sf_rv Iw42 rfl ?_
                    refine sc_M_left Iw42 (by omega) (by omega) (fun v65 => ?_)
                    refine sf_i2lb (fun v67 ev67 lv67 uv67 => ?_)
                    refine sf_lreturn rfl rfl ?_
                    exact hR _ _ Iw42 sw42 
