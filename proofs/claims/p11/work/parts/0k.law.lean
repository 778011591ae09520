set_option maxRecDepth 100000 in
set_option maxHeartbeats 40000000 in
theorem sc_law (N : Nat) (hN : N ≤ 4096) (xs : Nat → Int32) : ∀ n : Nat, ∀ (w : wq_W) (x4 : Int32) (a b : Nat), sf_I w → 0 ≤ x4.toInt → x4.toInt ≤ (N : Int) → (a : Int) ≤ 207 + 100 * x4.toInt → (b : Int) ≤ 4018 + 600 * x4.toInt → (N : Int) - x4.toInt < (n : Int) → ku_W_law N xs n 23 [(0, .inl (.ref 100000)), (1, .inl (.ref 0)), (2, .inl (.ref 71)), (3, .inl (.ref 130)), (4, .inl (.int x4))] [] w a b := by
  intro n
  induction n with
  | zero => intros; omega
  | succ n ih =>
    intro w x4 a b I_w l_x4 u_x4 ha hb  hm
    show kh_W_law_23 N xs (ku_W_law N xs n) [(0, .inl (.ref 100000)), (1, .inl (.ref 0)), (2, .inl (.ref 71)), (3, .inl (.ref 130)), (4, .inl (.int x4))] [] w a b
    generalize ku_W_law N xs n = K at ih ⊢
    have hs : sf_m [] w w := sf_m0
    refine sf_iload rfl ?_
    refine sf_aload rfl ?_
    refine sf_slen hN (fun z1 ez1 => ?_)
    refine sf_iconst sf_c8 (fun z2 ez2 => ?_)
    refine sf_isub (by omega) (fun v3 ev3 => ?_)
    refine sf_f2_gt (fun h4 => ?_) (fun h4 => ?_)
    · refine sf_iconst sf_c1 (fun z5 ez5 => ?_)
      exact sf_lend (by omega) (by omega) (by omega)
    · refine sf_aload rfl ?_
      refine sf_iload rfl ?_
      refine sf_sld (by omega) (fun v6 => ?_)
      refine sf_iconst sf_c31 (fun z7 ez7 => ?_)
      refine sf_iand (n := 31) (by omega) (by decide) (fun v8 lv8 uv8 => ?_)
      refine sf_sw1 sf_c0 (fun h9 => ?_) (fun h9 => ?_)
      · refine sf_aload rfl ?_
        refine sf_aload rfl ?_
        refine sf_iload rfl ?_
        refine sf_iconst sf_c1 (fun z10 ez10 => ?_)
        refine sf_iadd (by omega) (fun v11 ev11 => ?_)
        refine sf_sld (by omega) (fun v12 => ?_)
        clear ev11 ez10
        refine sf_aload rfl ?_
        refine sf_callv3 rfl (by omega) (by omega) ?_
        refine sc_W_heading_0_130 I_w  (fun v13 w14 Iw14 tw14 lv13 uv13 => ?_)
        refine sf_istore (L' := [(0, .inl (.ref 100000)), (1, .inl (.ref 0)), (2, .inl (.ref 71)), (3, .inl (.ref 130)), (4, .inl (.int x4))]) rfl ?_
        refine sf_aload rfl ?_
        refine sf_aload rfl ?_
        refine sf_iload rfl ?_
        refine sf_iconst sf_c1 (fun z16 ez16 => ?_)
        refine sf_iadd (by omega) (fun v17 ev17 => ?_)
        refine sf_sld (by omega) (fun v18 => ?_)
        clear ev17 ez16
        refine sf_callv2 rfl (by omega) (by omega) ?_
        refine sf_rv Iw14 rfl ?_
        refine sc_M_heading Iw14  (fun v19 w20 Iw20 tw20 lv19 uv19 => ?_)
        refine sf_istore (L' := [(5, .inl (.int v13)), (0, .inl (.ref 100000)), (1, .inl (.ref 0)), (2, .inl (.ref 71)), (3, .inl (.ref 130)), (4, .inl (.int x4))]) rfl ?_
        show kt_W_law_1404 N xs K _ _ _ _ _
        refine sf_iinc (L' := [(6, .inl (.int v19)), (5, .inl (.int v13)), (0, .inl (.ref 100000)), (1, .inl (.ref 0)), (2, .inl (.ref 71)), (3, .inl (.ref 130))]) (x := x4) sf_c8 rfl rfl (by omega) (fun v22 ev22 => ?_)
        refine sf_can (L' := [(0, .inl (.ref 100000)), (1, .inl (.ref 0)), (2, .inl (.ref 71)), (3, .inl (.ref 130)), (4, .inl (.int v22))]) rfl ?_
        exact ih _ _ _ _ Iw20 (by omega) (by omega) (by omega) (by omega)  (by omega)
      · clear h9
        refine sf_sw1 sf_c1 (fun h23 => ?_) (fun h23 => ?_)
        · refine sf_aload rfl ?_
          refine sf_aload rfl ?_
          refine sf_iload rfl ?_
          refine sf_iconst sf_c1 (fun z24 ez24 => ?_)
          refine sf_iadd (by omega) (fun v25 ev25 => ?_)
          refine sf_sld (by omega) (fun v26 => ?_)
          clear ev25 ez24
          refine sf_aload rfl ?_
          refine sf_iload rfl ?_
          refine sf_iconst sf_c2 (fun z27 ez27 => ?_)
          refine sf_iadd (by omega) (fun v28 ev28 => ?_)
          refine sf_sld (by omega) (fun v29 => ?_)
          clear ev28 ez27
          refine sf_aload rfl ?_
          refine sf_iload rfl ?_
          refine sf_iconst sf_c3 (fun z30 ez30 => ?_)
          refine sf_iadd (by omega) (fun v31 ev31 => ?_)
          refine sf_sld (by omega) (fun v32 => ?_)
          clear ev31 ez30
          refine sf_aload rfl ?_
          refine sf_iload rfl ?_
          refine sf_iconst sf_c4 (fun z33 ez33 => ?_)
          refine sf_iadd (by omega) (fun v34 ev34 => ?_)
          refine sf_sld (by omega) (fun v35 => ?_)
          clear ev34 ez33
          refine sf_aload rfl ?_
          refine sf_callv6 rfl (by omega) (by omega) ?_
          refine sc_W_note_0_130 I_w  (fun v36 w37 Iw37 tw37 lv36 uv36 => ?_)
          refine sf_istore (L' := [(0, .inl (.ref 100000)), (1, .inl (.ref 0)), (2, .inl (.ref 71)), (3, .inl (.ref 130)), (4, .inl (.int x4))]) rfl ?_
          refine sf_aload rfl ?_
          refine sf_aload rfl ?_
          refine sf_iload rfl ?_
          refine sf_iconst sf_c1 (fun z39 ez39 => ?_)
          refine sf_iadd (by omega) (fun v40 ev40 => ?_)
          refine sf_sld (by omega) (fun v41 => ?_)
          clear ev40 ez39
          refine sf_aload rfl ?_
          refine sf_iload rfl ?_
          refine sf_iconst sf_c2 (fun z42 ez42 => ?_)
          refine sf_iadd (by omega) (fun v43 ev43 => ?_)
          refine sf_sld (by omega) (fun v44 => ?_)
          clear ev43 ez42
          refine sf_aload rfl ?_
          refine sf_iload rfl ?_
          refine sf_iconst sf_c3 (fun z45 ez45 => ?_)
          refine sf_iadd (by omega) (fun v46 ev46 => ?_)
          refine sf_sld (by omega) (fun v47 => ?_)
          clear ev46 ez45
          refine sf_aload rfl ?_
          refine sf_iload rfl ?_
          refine sf_iconst sf_c4 (fun z48 ez48 => ?_)
          refine sf_iadd (by omega) (fun v49 ev49 => ?_)
          refine sf_sld (by omega) (fun v50 => ?_)
          clear ev49 ez48
          refine sf_callv5 rfl (by omega) (by omega) ?_
          refine sf_rv Iw37 rfl ?_
          refine sc_M_note Iw37  (fun v51 w52 Iw52 tw52 lv51 uv51 => ?_)
          refine sf_istore (L' := [(5, .inl (.int v36)), (0, .inl (.ref 100000)), (1, .inl (.ref 0)), (2, .inl (.ref 71)), (3, .inl (.ref 130)), (4, .inl (.int x4))]) rfl ?_
          show kt_W_law_1404 N xs K _ _ _ _ _
          refine sf_iinc (L' := [(6, .inl (.int v51)), (5, .inl (.int v36)), (0, .inl (.ref 100000)), (1, .inl (.ref 0)), (2, .inl (.ref 71)), (3, .inl (.ref 130))]) (x := x4) sf_c8 rfl rfl (by omega) (fun v54 ev54 => ?_)
          refine sf_can (L' := [(0, .inl (.ref 100000)), (1, .inl (.ref 0)), (2, .inl (.ref 71)), (3, .inl (.ref 130)), (4, .inl (.int v54))]) rfl ?_
          exact ih _ _ _ _ Iw52 (by omega) (by omega) (by omega) (by omega)  (by omega)
        · clear h23
          refine sf_sw1 sf_c2 (fun h55 => ?_) (fun h55 => ?_)
          · refine sf_aload rfl ?_
            refine sf_aload rfl ?_
            refine sf_iload rfl ?_
            refine sf_iconst sf_c1 (fun z56 ez56 => ?_)
            refine sf_iadd (by omega) (fun v57 ev57 => ?_)
            refine sf_sld (by omega) (fun v58 => ?_)
            clear ev57 ez56
            refine sf_aload rfl ?_
            refine sf_iload rfl ?_
            refine sf_iconst sf_c2 (fun z59 ez59 => ?_)
            refine sf_iadd (by omega) (fun v60 ev60 => ?_)
            refine sf_sld (by omega) (fun v61 => ?_)
            clear ev60 ez59
            refine sf_aload rfl ?_
            refine sf_iload rfl ?_
            refine sf_iconst sf_c3 (fun z62 ez62 => ?_)
            refine sf_iadd (by omega) (fun v63 ev63 => ?_)
            refine sf_sld (by omega) (fun v64 => ?_)
            clear ev63 ez62
            refine sf_aload rfl ?_
            refine sf_callv5 rfl (by omega) (by omega) ?_
            refine sc_W_fact_0_130 I_w  (fun v65 w66 Iw66 tw66 lv65 uv65 => ?_)
            refine sf_istore (L' := [(0, .inl (.ref 100000)), (1, .inl (.ref 0)), (2, .inl (.ref 71)), (3, .inl (.ref 130)), (4, .inl (.int x4))]) rfl ?_
            refine sf_aload rfl ?_
            refine sf_aload rfl ?_
            refine sf_iload rfl ?_
            refine sf_iconst sf_c1 (fun z68 ez68 => ?_)
            refine sf_iadd (by omega) (fun v69 ev69 => ?_)
            refine sf_sld (by omega) (fun v70 => ?_)
            clear ev69 ez68
            refine sf_aload rfl ?_
            refine sf_iload rfl ?_
            refine sf_iconst sf_c2 (fun z71 ez71 => ?_)
            refine sf_iadd (by omega) (fun v72 ev72 => ?_)
            refine sf_sld (by omega) (fun v73 => ?_)
            clear ev72 ez71
            refine sf_aload rfl ?_
            refine sf_iload rfl ?_
            refine sf_iconst sf_c3 (fun z74 ez74 => ?_)
            refine sf_iadd (by omega) (fun v75 ev75 => ?_)
            refine sf_sld (by omega) (fun v76 => ?_)
            clear ev75 ez74
            refine sf_callv4 rfl (by omega) (by omega) ?_
            refine sf_rv Iw66 rfl ?_
            refine sc_M_fact Iw66  (fun v77 w78 Iw78 tw78 => ?_)
            refine sf_istore (L' := [(5, .inl (.int v65)), (0, .inl (.ref 100000)), (1, .inl (.ref 0)), (2, .inl (.ref 71)), (3, .inl (.ref 130)), (4, .inl (.int x4))]) rfl ?_
            show kt_W_law_1404 N xs K _ _ _ _ _
            refine sf_iinc (L' := [(6, .inl (.int v77)), (5, .inl (.int v65)), (0, .inl (.ref 100000)), (1, .inl (.ref 0)), (2, .inl (.ref 71)), (3, .inl (.ref 130))]) (x := x4) sf_c8 rfl rfl (by omega) (fun v80 ev80 => ?_)
            refine sf_can (L' := [(0, .inl (.ref 100000)), (1, .inl (.ref 0)), (2, .inl (.ref 71)), (3, .inl (.ref 130)), (4, .inl (.int v80))]) rfl ?_
            exact ih _ _ _ _ Iw78 (by omega) (by omega) (by omega) (by omega)  (by omega)
          · clear h55
            refine sf_sw1 sf_c3 (fun h81 => ?_) (fun h81 => ?_)
            · refine sf_aload rfl ?_
              refine sf_aload rfl ?_
              refine sf_iload rfl ?_
              refine sf_iconst sf_c1 (fun z82 ez82 => ?_)
              refine sf_iadd (by omega) (fun v83 ev83 => ?_)
              refine sf_sld (by omega) (fun v84 => ?_)
              clear ev83 ez82
              refine sf_aload rfl ?_
              refine sf_callv3 rfl (by omega) (by omega) ?_
              refine sc_W_classify_0_130 I_w  (fun v85 w86 Iw86 tw86 lv85 uv85 => ?_)
              refine sf_istore (L' := [(0, .inl (.ref 100000)), (1, .inl (.ref 0)), (2, .inl (.ref 71)), (3, .inl (.ref 130)), (4, .inl (.int x4))]) rfl ?_
              refine sf_aload rfl ?_
              refine sf_aload rfl ?_
              refine sf_iload rfl ?_
              refine sf_iconst sf_c1 (fun z88 ez88 => ?_)
              refine sf_iadd (by omega) (fun v89 ev89 => ?_)
              refine sf_sld (by omega) (fun v90 => ?_)
              clear ev89 ez88
              refine sf_callv2 rfl (by omega) (by omega) ?_
              refine sf_rv Iw86 rfl ?_
              refine sc_M_classify Iw86  (fun v91 w92 Iw92 tw92 lv91 uv91 => ?_)
              refine sf_istore (L' := [(5, .inl (.int v85)), (0, .inl (.ref 100000)), (1, .inl (.ref 0)), (2, .inl (.ref 71)), (3, .inl (.ref 130)), (4, .inl (.int x4))]) rfl ?_
              show kt_W_law_1404 N xs K _ _ _ _ _
              refine sf_iinc (L' := [(6, .inl (.int v91)), (5, .inl (.int v85)), (0, .inl (.ref 100000)), (1, .inl (.ref 0)), (2, .inl (.ref 71)), (3, .inl (.ref 130))]) (x := x4) sf_c8 rfl rfl (by omega) (fun v94 ev94 => ?_)
              refine sf_can (L' := [(0, .inl (.ref 100000)), (1, .inl (.ref 0)), (2, .inl (.ref 71)), (3, .inl (.ref 130)), (4, .inl (.int v94))]) rfl ?_
              exact ih _ _ _ _ Iw92 (by omega) (by omega) (by omega) (by omega)  (by omega)
            · clear h81
              refine sf_sw1 sf_c4 (fun h95 => ?_) (fun h95 => ?_)
              · refine sf_aload rfl ?_
                refine sf_aload rfl ?_
                refine sf_iload rfl ?_
                refine sf_iconst sf_c1 (fun z96 ez96 => ?_)
                refine sf_iadd (by omega) (fun v97 ev97 => ?_)
                refine sf_sld (by omega) (fun v98 => ?_)
                clear ev97 ez96
                refine sf_aload rfl ?_
                refine sf_iload rfl ?_
                refine sf_iconst sf_c2 (fun z99 ez99 => ?_)
                refine sf_iadd (by omega) (fun v100 ev100 => ?_)
                refine sf_sld (by omega) (fun v101 => ?_)
                clear ev100 ez99
                refine sf_aload rfl ?_
                refine sf_iload rfl ?_
                refine sf_iconst sf_c3 (fun z102 ez102 => ?_)
                refine sf_iadd (by omega) (fun v103 ev103 => ?_)
                refine sf_sld (by omega) (fun v104 => ?_)
                clear ev103 ez102
                refine sf_aload rfl ?_
                refine sf_iload rfl ?_
                refine sf_iconst sf_c4 (fun z105 ez105 => ?_)
                refine sf_iadd (by omega) (fun v106 ev106 => ?_)
                refine sf_sld (by omega) (fun v107 => ?_)
                clear ev106 ez105
                refine sf_aload rfl ?_
                refine sf_iload rfl ?_
                refine sf_iconst sf_c5 (fun z108 ez108 => ?_)
                refine sf_iadd (by omega) (fun v109 ev109 => ?_)
                refine sf_sld (by omega) (fun v110 => ?_)
                clear ev109 ez108
                refine sf_aload rfl ?_
                refine sf_iload rfl ?_
                refine sf_iconst sf_c6 (fun z111 ez111 => ?_)
                refine sf_iadd (by omega) (fun v112 ev112 => ?_)
                refine sf_sld (by omega) (fun v113 => ?_)
                clear ev112 ez111
                refine sf_aload rfl ?_
                refine sf_iload rfl ?_
                refine sf_iconst sf_c7 (fun z114 ez114 => ?_)
                refine sf_iadd (by omega) (fun v115 ev115 => ?_)
                refine sf_sld (by omega) (fun v116 => ?_)
                clear ev115 ez114
                refine sf_aload rfl ?_
                refine sf_callv9 rfl (by omega) (by omega) ?_
                refine sc_W_rate_0_130 I_w  (fun v117 w118 Iw118 tw118 lv117 uv117 => ?_)
                refine sf_istore (L' := [(0, .inl (.ref 100000)), (1, .inl (.ref 0)), (2, .inl (.ref 71)), (3, .inl (.ref 130)), (4, .inl (.int x4))]) rfl ?_
                refine sf_aload rfl ?_
                refine sf_aload rfl ?_
                refine sf_iload rfl ?_
                refine sf_iconst sf_c1 (fun z120 ez120 => ?_)
                refine sf_iadd (by omega) (fun v121 ev121 => ?_)
                refine sf_sld (by omega) (fun v122 => ?_)
                clear ev121 ez120
                refine sf_aload rfl ?_
                refine sf_iload rfl ?_
                refine sf_iconst sf_c2 (fun z123 ez123 => ?_)
                refine sf_iadd (by omega) (fun v124 ev124 => ?_)
                refine sf_sld (by omega) (fun v125 => ?_)
                clear ev124 ez123
                refine sf_aload rfl ?_
                refine sf_iload rfl ?_
                refine sf_iconst sf_c3 (fun z126 ez126 => ?_)
                refine sf_iadd (by omega) (fun v127 ev127 => ?_)
                refine sf_sld (by omega) (fun v128 => ?_)
                clear ev127 ez126
                refine sf_aload rfl ?_
                refine sf_iload rfl ?_
                refine sf_iconst sf_c4 (fun z129 ez129 => ?_)
                refine sf_iadd (by omega) (fun v130 ev130 => ?_)
                refine sf_sld (by omega) (fun v131 => ?_)
                clear ev130 ez129
                refine sf_aload rfl ?_
                refine sf_iload rfl ?_
                refine sf_iconst sf_c5 (fun z132 ez132 => ?_)
                refine sf_iadd (by omega) (fun v133 ev133 => ?_)
                refine sf_sld (by omega) (fun v134 => ?_)
                clear ev133 ez132
                refine sf_aload rfl ?_
                refine sf_iload rfl ?_
                refine sf_iconst sf_c6 (fun z135 ez135 => ?_)
                refine sf_iadd (by omega) (fun v136 ev136 => ?_)
                refine sf_sld (by omega) (fun v137 => ?_)
                clear ev136 ez135
                refine sf_aload rfl ?_
                refine sf_iload rfl ?_
                refine sf_iconst sf_c7 (fun z138 ez138 => ?_)
                refine sf_iadd (by omega) (fun v139 ev139 => ?_)
                refine sf_sld (by omega) (fun v140 => ?_)
                clear ev139 ez138
                refine sf_callv8 rfl (by omega) (by omega) ?_
                refine sf_rv Iw118 rfl ?_
                refine sc_M_rate Iw118  (fun v141 w142 Iw142 tw142 lv141 uv141 => ?_)
                refine sf_istore (L' := [(5, .inl (.int v117)), (0, .inl (.ref 100000)), (1, .inl (.ref 0)), (2, .inl (.ref 71)), (3, .inl (.ref 130)), (4, .inl (.int x4))]) rfl ?_
                show kt_W_law_1404 N xs K _ _ _ _ _
                refine sf_iinc (L' := [(6, .inl (.int v141)), (5, .inl (.int v117)), (0, .inl (.ref 100000)), (1, .inl (.ref 0)), (2, .inl (.ref 71)), (3, .inl (.ref 130))]) (x := x4) sf_c8 rfl rfl (by omega) (fun v144 ev144 => ?_)
                refine sf_can (L' := [(0, .inl (.ref 100000)), (1, .inl (.ref 0)), (2, .inl (.ref 71)), (3, .inl (.ref 130)), (4, .inl (.int v144))]) rfl ?_
                exact ih _ _ _ _ Iw142 (by omega) (by omega) (by omega) (by omega)  (by omega)
              · clear h95
                refine sf_sw1 sf_c5 (fun h145 => ?_) (fun h145 => ?_)
                · refine sf_aload rfl ?_
                  refine sf_aload rfl ?_
                  refine sf_iload rfl ?_
                  refine sf_iconst sf_c1 (fun z146 ez146 => ?_)
                  refine sf_iadd (by omega) (fun v147 ev147 => ?_)
                  refine sf_sld (by omega) (fun v148 => ?_)
                  clear ev147 ez146
                  refine sf_aload rfl ?_
                  refine sf_iload rfl ?_
                  refine sf_iconst sf_c2 (fun z149 ez149 => ?_)
                  refine sf_iadd (by omega) (fun v150 ev150 => ?_)
                  refine sf_sld (by omega) (fun v151 => ?_)
                  clear ev150 ez149
                  refine sf_aload rfl ?_
                  refine sf_iload rfl ?_
                  refine sf_iconst sf_c3 (fun z152 ez152 => ?_)
                  refine sf_iadd (by omega) (fun v153 ev153 => ?_)
                  refine sf_sld (by omega) (fun v154 => ?_)
                  clear ev153 ez152
                  refine sf_aload rfl ?_
                  refine sf_callv5 rfl (by omega) (by omega) ?_
                  refine sc_W_rateFor_0_130 I_w  (fun v155 w156 Iw156 tw156 lv155 uv155 => ?_)
                  refine sf_istore (L' := [(0, .inl (.ref 100000)), (1, .inl (.ref 0)), (2, .inl (.ref 71)), (3, .inl (.ref 130)), (4, .inl (.int x4))]) rfl ?_
                  refine sf_aload rfl ?_
                  refine sf_aload rfl ?_
                  refine sf_iload rfl ?_
                  refine sf_iconst sf_c1 (fun z158 ez158 => ?_)
                  refine sf_iadd (by omega) (fun v159 ev159 => ?_)
                  refine sf_sld (by omega) (fun v160 => ?_)
                  clear ev159 ez158
                  refine sf_aload rfl ?_
                  refine sf_iload rfl ?_
                  refine sf_iconst sf_c2 (fun z161 ez161 => ?_)
                  refine sf_iadd (by omega) (fun v162 ev162 => ?_)
                  refine sf_sld (by omega) (fun v163 => ?_)
                  clear ev162 ez161
                  refine sf_aload rfl ?_
                  refine sf_iload rfl ?_
                  refine sf_iconst sf_c3 (fun z164 ez164 => ?_)
                  refine sf_iadd (by omega) (fun v165 ev165 => ?_)
                  refine sf_sld (by omega) (fun v166 => ?_)
                  clear ev165 ez164
                  refine sf_callv4 rfl (by omega) (by omega) ?_
                  refine sf_rv Iw156 rfl ?_
                  refine sc_M_rateFor Iw156  (fun v167 w168 Iw168 tw168 lv167 uv167 => ?_)
                  refine sf_istore (L' := [(5, .inl (.int v155)), (0, .inl (.ref 100000)), (1, .inl (.ref 0)), (2, .inl (.ref 71)), (3, .inl (.ref 130)), (4, .inl (.int x4))]) rfl ?_
                  show kt_W_law_1404 N xs K _ _ _ _ _
                  refine sf_iinc (L' := [(6, .inl (.int v167)), (5, .inl (.int v155)), (0, .inl (.ref 100000)), (1, .inl (.ref 0)), (2, .inl (.ref 71)), (3, .inl (.ref 130))]) (x := x4) sf_c8 rfl rfl (by omega) (fun v170 ev170 => ?_)
                  refine sf_can (L' := [(0, .inl (.ref 100000)), (1, .inl (.ref 0)), (2, .inl (.ref 71)), (3, .inl (.ref 130)), (4, .inl (.int v170))]) rfl ?_
                  exact ih _ _ _ _ Iw168 (by omega) (by omega) (by omega) (by omega)  (by omega)
                · clear h145
                  refine sf_sw1 sf_c6 (fun h171 => ?_) (fun h171 => ?_)
                  · refine sf_aload rfl ?_
                    refine sf_aload rfl ?_
                    refine sf_iload rfl ?_
                    refine sf_iconst sf_c1 (fun z172 ez172 => ?_)
                    refine sf_iadd (by omega) (fun v173 ev173 => ?_)
                    refine sf_sld (by omega) (fun v174 => ?_)
                    clear ev173 ez172
                    refine sf_aload rfl ?_
                    refine sf_iload rfl ?_
                    refine sf_iconst sf_c2 (fun z175 ez175 => ?_)
                    refine sf_iadd (by omega) (fun v176 ev176 => ?_)
                    refine sf_sld (by omega) (fun v177 => ?_)
                    clear ev176 ez175
                    refine sf_aload rfl ?_
                    refine sf_iload rfl ?_
                    refine sf_iconst sf_c3 (fun z178 ez178 => ?_)
                    refine sf_iadd (by omega) (fun v179 ev179 => ?_)
                    refine sf_sld (by omega) (fun v180 => ?_)
                    clear ev179 ez178
                    refine sf_aload rfl ?_
                    refine sf_iload rfl ?_
                    refine sf_iconst sf_c4 (fun z181 ez181 => ?_)
                    refine sf_iadd (by omega) (fun v182 ev182 => ?_)
                    refine sf_sld (by omega) (fun v183 => ?_)
                    clear ev182 ez181
                    refine sf_aload rfl ?_
                    refine sf_iload rfl ?_
                    refine sf_iconst sf_c5 (fun z184 ez184 => ?_)
                    refine sf_iadd (by omega) (fun v185 ev185 => ?_)
                    refine sf_sld (by omega) (fun v186 => ?_)
                    clear ev185 ez184
                    refine sf_aload rfl ?_
                    refine sf_iload rfl ?_
                    refine sf_iconst sf_c6 (fun z187 ez187 => ?_)
                    refine sf_iadd (by omega) (fun v188 ev188 => ?_)
                    refine sf_sld (by omega) (fun v189 => ?_)
                    clear ev188 ez187
                    refine sf_aload rfl ?_
                    refine sf_callv8 rfl (by omega) (by omega) ?_
                    refine sc_W_quota_0_130 I_w  (fun v190 w191 Iw191 tw191 lv190 uv190 => ?_)
                    refine sf_istore (L' := [(0, .inl (.ref 100000)), (1, .inl (.ref 0)), (2, .inl (.ref 71)), (3, .inl (.ref 130)), (4, .inl (.int x4))]) rfl ?_
                    refine sf_aload rfl ?_
                    refine sf_aload rfl ?_
                    refine sf_iload rfl ?_
                    refine sf_iconst sf_c1 (fun z193 ez193 => ?_)
                    refine sf_iadd (by omega) (fun v194 ev194 => ?_)
                    refine sf_sld (by omega) (fun v195 => ?_)
                    clear ev194 ez193
                    refine sf_aload rfl ?_
                    refine sf_iload rfl ?_
                    refine sf_iconst sf_c2 (fun z196 ez196 => ?_)
                    refine sf_iadd (by omega) (fun v197 ev197 => ?_)
                    refine sf_sld (by omega) (fun v198 => ?_)
                    clear ev197 ez196
                    refine sf_aload rfl ?_
                    refine sf_iload rfl ?_
                    refine sf_iconst sf_c3 (fun z199 ez199 => ?_)
                    refine sf_iadd (by omega) (fun v200 ev200 => ?_)
                    refine sf_sld (by omega) (fun v201 => ?_)
                    clear ev200 ez199
                    refine sf_aload rfl ?_
                    refine sf_iload rfl ?_
                    refine sf_iconst sf_c4 (fun z202 ez202 => ?_)
                    refine sf_iadd (by omega) (fun v203 ev203 => ?_)
                    refine sf_sld (by omega) (fun v204 => ?_)
                    clear ev203 ez202
                    refine sf_aload rfl ?_
                    refine sf_iload rfl ?_
                    refine sf_iconst sf_c5 (fun z205 ez205 => ?_)
                    refine sf_iadd (by omega) (fun v206 ev206 => ?_)
                    refine sf_sld (by omega) (fun v207 => ?_)
                    clear ev206 ez205
                    refine sf_aload rfl ?_
                    refine sf_iload rfl ?_
                    refine sf_iconst sf_c6 (fun z208 ez208 => ?_)
                    refine sf_iadd (by omega) (fun v209 ev209 => ?_)
                    refine sf_sld (by omega) (fun v210 => ?_)
                    clear ev209 ez208
                    refine sf_callv7 rfl (by omega) (by omega) ?_
                    refine sf_rv Iw191 rfl ?_
                    refine sc_M_quota Iw191  (fun v211 w212 Iw212 tw212 lv211 uv211 => ?_)
                    refine sf_istore (L' := [(5, .inl (.int v190)), (0, .inl (.ref 100000)), (1, .inl (.ref 0)), (2, .inl (.ref 71)), (3, .inl (.ref 130)), (4, .inl (.int x4))]) rfl ?_
                    show kt_W_law_1404 N xs K _ _ _ _ _
                    refine sf_iinc (L' := [(6, .inl (.int v211)), (5, .inl (.int v190)), (0, .inl (.ref 100000)), (1, .inl (.ref 0)), (2, .inl (.ref 71)), (3, .inl (.ref 130))]) (x := x4) sf_c8 rfl rfl (by omega) (fun v214 ev214 => ?_)
                    refine sf_can (L' := [(0, .inl (.ref 100000)), (1, .inl (.ref 0)), (2, .inl (.ref 71)), (3, .inl (.ref 130)), (4, .inl (.int v214))]) rfl ?_
                    exact ih _ _ _ _ Iw212 (by omega) (by omega) (by omega) (by omega)  (by omega)
                  · clear h171
                    refine sf_sw1 sf_c7 (fun h215 => ?_) (fun h215 => ?_)
                    · refine sf_aload rfl ?_
                      refine sf_aload rfl ?_
                      refine sf_iload rfl ?_
                      refine sf_iconst sf_c1 (fun z216 ez216 => ?_)
                      refine sf_iadd (by omega) (fun v217 ev217 => ?_)
                      refine sf_sld (by omega) (fun v218 => ?_)
                      clear ev217 ez216
                      refine sf_aload rfl ?_
                      refine sf_callv3 rfl (by omega) (by omega) ?_
                      refine sc_W_quotaLeft_0_130 I_w  (fun v219 w220 Iw220 tw220 lv219 uv219 => ?_)
                      refine sf_istore (L' := [(0, .inl (.ref 100000)), (1, .inl (.ref 0)), (2, .inl (.ref 71)), (3, .inl (.ref 130)), (4, .inl (.int x4))]) rfl ?_
                      refine sf_aload rfl ?_
                      refine sf_aload rfl ?_
                      refine sf_iload rfl ?_
                      refine sf_iconst sf_c1 (fun z222 ez222 => ?_)
                      refine sf_iadd (by omega) (fun v223 ev223 => ?_)
                      refine sf_sld (by omega) (fun v224 => ?_)
                      clear ev223 ez222
                      refine sf_callv2 rfl (by omega) (by omega) ?_
                      refine sf_rv Iw220 rfl ?_
                      refine sc_M_quotaLeft Iw220  (fun v225 w226 Iw226 tw226 => ?_)
                      refine sf_istore (L' := [(5, .inl (.int v219)), (0, .inl (.ref 100000)), (1, .inl (.ref 0)), (2, .inl (.ref 71)), (3, .inl (.ref 130)), (4, .inl (.int x4))]) rfl ?_
                      show kt_W_law_1404 N xs K _ _ _ _ _
                      refine sf_iinc (L' := [(6, .inl (.int v225)), (5, .inl (.int v219)), (0, .inl (.ref 100000)), (1, .inl (.ref 0)), (2, .inl (.ref 71)), (3, .inl (.ref 130))]) (x := x4) sf_c8 rfl rfl (by omega) (fun v228 ev228 => ?_)
                      refine sf_can (L' := [(0, .inl (.ref 100000)), (1, .inl (.ref 0)), (2, .inl (.ref 71)), (3, .inl (.ref 130)), (4, .inl (.int v228))]) rfl ?_
                      exact ih _ _ _ _ Iw226 (by omega) (by omega) (by omega) (by omega)  (by omega)
                    · clear h215
                      refine sf_sw1 sf_c8 (fun h229 => ?_) (fun h229 => ?_)
                      · refine sf_aload rfl ?_
                        refine sf_aload rfl ?_
                        refine sf_iload rfl ?_
                        refine sf_iconst sf_c1 (fun z230 ez230 => ?_)
                        refine sf_iadd (by omega) (fun v231 ev231 => ?_)
                        refine sf_sld (by omega) (fun v232 => ?_)
                        clear ev231 ez230
                        refine sf_aload rfl ?_
                        refine sf_iload rfl ?_
                        refine sf_iconst sf_c2 (fun z233 ez233 => ?_)
                        refine sf_iadd (by omega) (fun v234 ev234 => ?_)
                        refine sf_sld (by omega) (fun v235 => ?_)
                        clear ev234 ez233
                        refine sf_aload rfl ?_
                        refine sf_iload rfl ?_
                        refine sf_iconst sf_c3 (fun z236 ez236 => ?_)
                        refine sf_iadd (by omega) (fun v237 ev237 => ?_)
                        refine sf_sld (by omega) (fun v238 => ?_)
                        clear ev237 ez236
                        refine sf_aload rfl ?_
                        refine sf_iload rfl ?_
                        refine sf_iconst sf_c4 (fun z239 ez239 => ?_)
                        refine sf_iadd (by omega) (fun v240 ev240 => ?_)
                        refine sf_sld (by omega) (fun v241 => ?_)
                        clear ev240 ez239
                        refine sf_aload rfl ?_
                        refine sf_callv6 rfl (by omega) (by omega) ?_
                        refine sc_W_part_0_130 I_w  (fun v242 w243 Iw243 tw243 lv242 uv242 => ?_)
                        refine sf_istore (L' := [(0, .inl (.ref 100000)), (1, .inl (.ref 0)), (2, .inl (.ref 71)), (3, .inl (.ref 130)), (4, .inl (.int x4))]) rfl ?_
                        refine sf_aload rfl ?_
                        refine sf_aload rfl ?_
                        refine sf_iload rfl ?_
                        refine sf_iconst sf_c1 (fun z245 ez245 => ?_)
                        refine sf_iadd (by omega) (fun v246 ev246 => ?_)
                        refine sf_sld (by omega) (fun v247 => ?_)
                        clear ev246 ez245
                        refine sf_aload rfl ?_
                        refine sf_iload rfl ?_
                        refine sf_iconst sf_c2 (fun z248 ez248 => ?_)
                        refine sf_iadd (by omega) (fun v249 ev249 => ?_)
                        refine sf_sld (by omega) (fun v250 => ?_)
                        clear ev249 ez248
                        refine sf_aload rfl ?_
                        refine sf_iload rfl ?_
                        refine sf_iconst sf_c3 (fun z251 ez251 => ?_)
                        refine sf_iadd (by omega) (fun v252 ev252 => ?_)
                        refine sf_sld (by omega) (fun v253 => ?_)
                        clear ev252 ez251
                        refine sf_aload rfl ?_
                        refine sf_iload rfl ?_
                        refine sf_iconst sf_c4 (fun z254 ez254 => ?_)
                        refine sf_iadd (by omega) (fun v255 ev255 => ?_)
                        refine sf_sld (by omega) (fun v256 => ?_)
                        clear ev255 ez254
                        refine sf_callv5 rfl (by omega) (by omega) ?_
                        refine sf_rv Iw243 rfl ?_
                        refine sc_M_part Iw243  (fun v257 w258 Iw258 tw258 lv257 uv257 => ?_)
                        refine sf_istore (L' := [(5, .inl (.int v242)), (0, .inl (.ref 100000)), (1, .inl (.ref 0)), (2, .inl (.ref 71)), (3, .inl (.ref 130)), (4, .inl (.int x4))]) rfl ?_
                        show kt_W_law_1404 N xs K _ _ _ _ _
                        refine sf_iinc (L' := [(6, .inl (.int v257)), (5, .inl (.int v242)), (0, .inl (.ref 100000)), (1, .inl (.ref 0)), (2, .inl (.ref 71)), (3, .inl (.ref 130))]) (x := x4) sf_c8 rfl rfl (by omega) (fun v260 ev260 => ?_)
                        refine sf_can (L' := [(0, .inl (.ref 100000)), (1, .inl (.ref 0)), (2, .inl (.ref 71)), (3, .inl (.ref 130)), (4, .inl (.int v260))]) rfl ?_
                        exact ih _ _ _ _ Iw258 (by omega) (by omega) (by omega) (by omega)  (by omega)
                      · clear h229
                        refine sf_sw1 sf_c9 (fun h261 => ?_) (fun h261 => ?_)
                        · refine sf_aload rfl ?_
                          refine sf_aload rfl ?_
                          refine sf_iload rfl ?_
                          refine sf_iconst sf_c1 (fun z262 ez262 => ?_)
                          refine sf_iadd (by omega) (fun v263 ev263 => ?_)
                          refine sf_sldk (x := x4) (k := 1) (by omega) (by omega) (by omega) (fun v264 ev264 => ?_)
                          clear ev263 ez262
                          refine sf_aload rfl ?_
                          refine sf_iload rfl ?_
                          refine sf_iconst sf_c2 (fun z265 ez265 => ?_)
                          refine sf_iadd (by omega) (fun v266 ev266 => ?_)
                          refine sf_sldk (x := x4) (k := 2) (by omega) (by omega) (by omega) (fun v267 ev267 => ?_)
                          clear ev266 ez265
                          refine sf_callv3 rfl (by omega) (by omega) ?_
                          refine sc_W_zone_0 I_w  (fun v268 w269 Iw269 tw269 lv268 uv268 q270_0 => ?_)
                          refine sf_istore (L' := [(0, .inl (.ref 100000)), (1, .inl (.ref 0)), (2, .inl (.ref 71)), (3, .inl (.ref 130)), (4, .inl (.int x4))]) rfl ?_
                          refine sf_aload rfl ?_
                          refine sf_aload rfl ?_
                          refine sf_iload rfl ?_
                          refine sf_iconst sf_c1 (fun z271 ez271 => ?_)
                          refine sf_iadd (by omega) (fun v272 ev272 => ?_)
                          refine sf_sldk (x := x4) (k := 1) (by omega) (by omega) (by omega) (fun v273 ev273 => ?_)
                          clear ev272 ez271
                          refine sf_aload rfl ?_
                          refine sf_iload rfl ?_
                          refine sf_iconst sf_c2 (fun z274 ez274 => ?_)
                          refine sf_iadd (by omega) (fun v275 ev275 => ?_)
                          refine sf_sldk (x := x4) (k := 2) (by omega) (by omega) (by omega) (fun v276 ev276 => ?_)
                          clear ev275 ez274
                          refine sf_callv3 rfl (by omega) (by omega) ?_
                          refine sf_rv Iw269 rfl ?_
                          refine sc_M_zone Iw269  (fun w277 Iw277 tw277 q278_0 => ?_)
                          refine sf_aload rfl ?_
                          refine sf_callv1 rfl (by omega) (by omega) ?_
                          refine sf_rv Iw277 rfl ?_
                          refine sf_sp (L := [(0, .inl (.ref 71))]) rfl rfl ?_
                          refine sf_aload rfl ?_
                          refine sf_geti Iw277 rfl rfl (fun v279 lv279 uv279 ev279 => ?_)
                          refine sf_ireturn rfl rfl ?_
                          refine sf_iload rfl ?_
                          refine sf_f2_eq (fun h280 => ?_) (fun h280 => ?_)
                          · show kt_W_law_1404 N xs K _ _ _ _ _
                            refine sf_iinc (L' := [(5, .inl (.int v268)), (0, .inl (.ref 100000)), (1, .inl (.ref 0)), (2, .inl (.ref 71)), (3, .inl (.ref 130))]) (x := x4) sf_c8 rfl rfl (by omega) (fun v281 ev281 => ?_)
                            refine sf_can (L' := [(0, .inl (.ref 100000)), (1, .inl (.ref 0)), (2, .inl (.ref 71)), (3, .inl (.ref 130)), (4, .inl (.int v281))]) rfl ?_
                            exact ih _ _ _ _ Iw277 (by omega) (by omega) (by omega) (by omega)  (by omega)
                          · refine sf_iconst sf_c0 (fun z282 ez282 => ?_)
                            exact sf_lend (by omega) (by omega) (by omega)
                        · clear h261
                          refine sf_sw1 sf_c10 (fun h283 => ?_) (fun h283 => ?_)
                          · refine sf_aload rfl ?_
                            refine sf_aload rfl ?_
                            refine sf_iload rfl ?_
                            refine sf_iconst sf_c1 (fun z284 ez284 => ?_)
                            refine sf_iadd (by omega) (fun v285 ev285 => ?_)
                            refine sf_sld (by omega) (fun v286 => ?_)
                            clear ev285 ez284
                            refine sf_aload rfl ?_
                            refine sf_iload rfl ?_
                            refine sf_iconst sf_c2 (fun z287 ez287 => ?_)
                            refine sf_iadd (by omega) (fun v288 ev288 => ?_)
                            refine sf_sld (by omega) (fun v289 => ?_)
                            clear ev288 ez287
                            refine sf_aload rfl ?_
                            refine sf_iload rfl ?_
                            refine sf_iconst sf_c3 (fun z290 ez290 => ?_)
                            refine sf_iadd (by omega) (fun v291 ev291 => ?_)
                            refine sf_sld (by omega) (fun v292 => ?_)
                            clear ev291 ez290
                            refine sf_callv4 rfl (by omega) (by omega) ?_
                            refine sc_W_rule_0 I_w  (fun v293 w294 Iw294 tw294 lv293 uv293 => ?_)
                            refine sf_istore (L' := [(0, .inl (.ref 100000)), (1, .inl (.ref 0)), (2, .inl (.ref 71)), (3, .inl (.ref 130)), (4, .inl (.int x4))]) rfl ?_
                            refine sf_aload rfl ?_
                            refine sf_aload rfl ?_
                            refine sf_iload rfl ?_
                            refine sf_iconst sf_c1 (fun z296 ez296 => ?_)
                            refine sf_iadd (by omega) (fun v297 ev297 => ?_)
                            refine sf_sld (by omega) (fun v298 => ?_)
                            clear ev297 ez296
                            refine sf_aload rfl ?_
                            refine sf_iload rfl ?_
                            refine sf_iconst sf_c2 (fun z299 ez299 => ?_)
                            refine sf_iadd (by omega) (fun v300 ev300 => ?_)
                            refine sf_sld (by omega) (fun v301 => ?_)
                            clear ev300 ez299
                            refine sf_aload rfl ?_
                            refine sf_iload rfl ?_
                            refine sf_iconst sf_c3 (fun z302 ez302 => ?_)
                            refine sf_iadd (by omega) (fun v303 ev303 => ?_)
                            refine sf_sld (by omega) (fun v304 => ?_)
                            clear ev303 ez302
                            refine sf_callv4 rfl (by omega) (by omega) ?_
                            refine sf_rv Iw294 rfl ?_
                            refine sc_M_rule Iw294  (fun w305 Iw305 tw305 => ?_)
                            show kt_W_law_1404 N xs K _ _ _ _ _
                            refine sf_iinc (L' := [(5, .inl (.int v293)), (0, .inl (.ref 100000)), (1, .inl (.ref 0)), (2, .inl (.ref 71)), (3, .inl (.ref 130))]) (x := x4) sf_c8 rfl rfl (by omega) (fun v307 ev307 => ?_)
                            refine sf_can (L' := [(0, .inl (.ref 100000)), (1, .inl (.ref 0)), (2, .inl (.ref 71)), (3, .inl (.ref 130)), (4, .inl (.int v307))]) rfl ?_
                            exact ih _ _ _ _ Iw305 (by omega) (by omega) (by omega) (by omega)  (by omega)
                          · clear h283
                            refine sf_sw1 sf_c11 (fun h308 => ?_) (fun h308 => ?_)
                            · refine sf_aload rfl ?_
                              refine sf_aload rfl ?_
                              refine sf_iload rfl ?_
                              refine sf_iconst sf_c1 (fun z309 ez309 => ?_)
                              refine sf_iadd (by omega) (fun v310 ev310 => ?_)
                              refine sf_sld (by omega) (fun v311 => ?_)
                              clear ev310 ez309
                              refine sf_aload rfl ?_
                              refine sf_iload rfl ?_
                              refine sf_iconst sf_c2 (fun z312 ez312 => ?_)
                              refine sf_iadd (by omega) (fun v313 ev313 => ?_)
                              refine sf_sld (by omega) (fun v314 => ?_)
                              clear ev313 ez312
                              refine sf_aload rfl ?_
                              refine sf_callv4 rfl (by omega) (by omega) ?_
                              refine sc_W_madeIn_0_130 I_w  (fun v315 w316 Iw316 tw316 lv315 uv315 => ?_)
                              refine sf_istore (L' := [(0, .inl (.ref 100000)), (1, .inl (.ref 0)), (2, .inl (.ref 71)), (3, .inl (.ref 130)), (4, .inl (.int x4))]) rfl ?_
                              refine sf_aload rfl ?_
                              refine sf_aload rfl ?_
                              refine sf_iload rfl ?_
                              refine sf_iconst sf_c1 (fun z318 ez318 => ?_)
                              refine sf_iadd (by omega) (fun v319 ev319 => ?_)
                              refine sf_sld (by omega) (fun v320 => ?_)
                              clear ev319 ez318
                              refine sf_aload rfl ?_
                              refine sf_iload rfl ?_
                              refine sf_iconst sf_c2 (fun z321 ez321 => ?_)
                              refine sf_iadd (by omega) (fun v322 ev322 => ?_)
                              refine sf_sld (by omega) (fun v323 => ?_)
                              clear ev322 ez321
                              refine sf_callv3 rfl (by omega) (by omega) ?_
                              refine sf_rv Iw316 rfl ?_
                              refine sc_M_madeIn Iw316  (fun v324 w325 Iw325 tw325 lv324 uv324 => ?_)
                              refine sf_istore (L' := [(5, .inl (.int v315)), (0, .inl (.ref 100000)), (1, .inl (.ref 0)), (2, .inl (.ref 71)), (3, .inl (.ref 130)), (4, .inl (.int x4))]) rfl ?_
                              show kt_W_law_1404 N xs K _ _ _ _ _
                              refine sf_iinc (L' := [(6, .inl (.int v324)), (5, .inl (.int v315)), (0, .inl (.ref 100000)), (1, .inl (.ref 0)), (2, .inl (.ref 71)), (3, .inl (.ref 130))]) (x := x4) sf_c8 rfl rfl (by omega) (fun v327 ev327 => ?_)
                              refine sf_can (L' := [(0, .inl (.ref 100000)), (1, .inl (.ref 0)), (2, .inl (.ref 71)), (3, .inl (.ref 130)), (4, .inl (.int v327))]) rfl ?_
                              exact ih _ _ _ _ Iw325 (by omega) (by omega) (by omega) (by omega)  (by omega)
                            · clear h308
                              refine sf_sw1 sf_c12 (fun h328 => ?_) (fun h328 => ?_)
                              · refine sf_aload rfl ?_
                                refine sf_aload rfl ?_
                                refine sf_iload rfl ?_
                                refine sf_iconst sf_c1 (fun z329 ez329 => ?_)
                                refine sf_iadd (by omega) (fun v330 ev330 => ?_)
                                refine sf_sld (by omega) (fun v331 => ?_)
                                clear ev330 ez329
                                refine sf_aload rfl ?_
                                refine sf_iload rfl ?_
                                refine sf_iconst sf_c2 (fun z332 ez332 => ?_)
                                refine sf_iadd (by omega) (fun v333 ev333 => ?_)
                                refine sf_sld (by omega) (fun v334 => ?_)
                                clear ev333 ez332
                                refine sf_aload rfl ?_
                                refine sf_callv4 rfl (by omega) (by omega) ?_
                                refine sc_W_declare_0_130 I_w  (fun v335 w336 Iw336 tw336 lv335 uv335 => ?_)
                                refine sf_istore (L' := [(0, .inl (.ref 100000)), (1, .inl (.ref 0)), (2, .inl (.ref 71)), (3, .inl (.ref 130)), (4, .inl (.int x4))]) rfl ?_
                                refine sf_aload rfl ?_
                                refine sf_aload rfl ?_
                                refine sf_iload rfl ?_
                                refine sf_iconst sf_c1 (fun z338 ez338 => ?_)
                                refine sf_iadd (by omega) (fun v339 ev339 => ?_)
                                refine sf_sld (by omega) (fun v340 => ?_)
                                clear ev339 ez338
                                refine sf_aload rfl ?_
                                refine sf_iload rfl ?_
                                refine sf_iconst sf_c2 (fun z341 ez341 => ?_)
                                refine sf_iadd (by omega) (fun v342 ev342 => ?_)
                                refine sf_sld (by omega) (fun v343 => ?_)
                                clear ev342 ez341
                                refine sf_callv3 rfl (by omega) (by omega) ?_
                                refine sf_rv Iw336 rfl ?_
                                refine sc_M_declare Iw336  (fun v344 w345 Iw345 tw345 lv344 uv344 => ?_)
                                refine sf_istore (L' := [(5, .inl (.int v335)), (0, .inl (.ref 100000)), (1, .inl (.ref 0)), (2, .inl (.ref 71)), (3, .inl (.ref 130)), (4, .inl (.int x4))]) rfl ?_
                                show kt_W_law_1404 N xs K _ _ _ _ _
                                refine sf_iinc (L' := [(6, .inl (.int v344)), (5, .inl (.int v335)), (0, .inl (.ref 100000)), (1, .inl (.ref 0)), (2, .inl (.ref 71)), (3, .inl (.ref 130))]) (x := x4) sf_c8 rfl rfl (by omega) (fun v347 ev347 => ?_)
                                refine sf_can (L' := [(0, .inl (.ref 100000)), (1, .inl (.ref 0)), (2, .inl (.ref 71)), (3, .inl (.ref 130)), (4, .inl (.int v347))]) rfl ?_
                                exact ih _ _ _ _ Iw345 (by omega) (by omega) (by omega) (by omega)  (by omega)
                              · clear h328
                                refine sf_sw1 sf_c13 (fun h348 => ?_) (fun h348 => ?_)
                                · refine sf_aload rfl ?_
                                  refine sf_aload rfl ?_
                                  refine sf_iload rfl ?_
                                  refine sf_iconst sf_c1 (fun z349 ez349 => ?_)
                                  refine sf_iadd (by omega) (fun v350 ev350 => ?_)
                                  refine sf_sld (by omega) (fun v351 => ?_)
                                  clear ev350 ez349
                                  refine sf_aload rfl ?_
                                  refine sf_iload rfl ?_
                                  refine sf_iconst sf_c2 (fun z352 ez352 => ?_)
                                  refine sf_iadd (by omega) (fun v353 ev353 => ?_)
                                  refine sf_sld (by omega) (fun v354 => ?_)
                                  clear ev353 ez352
                                  refine sf_aload rfl ?_
                                  refine sf_iload rfl ?_
                                  refine sf_iconst sf_c3 (fun z355 ez355 => ?_)
                                  refine sf_iadd (by omega) (fun v356 ev356 => ?_)
                                  refine sf_sld (by omega) (fun v357 => ?_)
                                  clear ev356 ez355
                                  refine sf_aload rfl ?_
                                  refine sf_iload rfl ?_
                                  refine sf_iconst sf_c4 (fun z358 ez358 => ?_)
                                  refine sf_iadd (by omega) (fun v359 ev359 => ?_)
                                  refine sf_sld (by omega) (fun v360 => ?_)
                                  clear ev359 ez358
                                  refine sf_aload rfl ?_
                                  refine sf_iload rfl ?_
                                  refine sf_iconst sf_c5 (fun z361 ez361 => ?_)
                                  refine sf_iadd (by omega) (fun v362 ev362 => ?_)
                                  refine sf_sld (by omega) (fun v363 => ?_)
                                  clear ev362 ez361
                                  refine sf_aload rfl ?_
                                  refine sf_iload rfl ?_
                                  refine sf_iconst sf_c6 (fun z364 ez364 => ?_)
                                  refine sf_iadd (by omega) (fun v365 ev365 => ?_)
                                  refine sf_sld (by omega) (fun v366 => ?_)
                                  clear ev365 ez364
                                  refine sf_aload rfl ?_
                                  refine sf_iload rfl ?_
                                  refine sf_iconst sf_c7 (fun z367 ez367 => ?_)
                                  refine sf_iadd (by omega) (fun v368 ev368 => ?_)
                                  refine sf_sld (by omega) (fun v369 => ?_)
                                  clear ev368 ez367
                                  refine sf_f1_eq (fun h370 => ?_) (fun h370 => ?_)
                                  · refine sf_iconst sf_c0 (fun z371 ez371 => ?_)
                                    refine sf_aload rfl ?_
                                    refine sf_callv9 rfl (by omega) (by omega) ?_
                                    refine sc_W_line_0_130 I_w (by omega) (by omega) (fun v372 w373 Iw373 tw373 lv372 uv372 => ?_)
                                    refine sf_istore (L' := [(0, .inl (.ref 100000)), (1, .inl (.ref 0)), (2, .inl (.ref 71)), (3, .inl (.ref 130)), (4, .inl (.int x4))]) rfl ?_
                                    refine sf_aload rfl ?_
                                    refine sf_aload rfl ?_
                                    refine sf_iload rfl ?_
                                    refine sf_iconst sf_c1 (fun z375 ez375 => ?_)
                                    refine sf_iadd (by omega) (fun v376 ev376 => ?_)
                                    refine sf_sld (by omega) (fun v377 => ?_)
                                    clear ev376 ez375
                                    refine sf_aload rfl ?_
                                    refine sf_iload rfl ?_
                                    refine sf_iconst sf_c2 (fun z378 ez378 => ?_)
                                    refine sf_iadd (by omega) (fun v379 ev379 => ?_)
                                    refine sf_sld (by omega) (fun v380 => ?_)
                                    clear ev379 ez378
                                    refine sf_aload rfl ?_
                                    refine sf_iload rfl ?_
                                    refine sf_iconst sf_c3 (fun z381 ez381 => ?_)
                                    refine sf_iadd (by omega) (fun v382 ev382 => ?_)
                                    refine sf_sld (by omega) (fun v383 => ?_)
                                    clear ev382 ez381
                                    refine sf_aload rfl ?_
                                    refine sf_iload rfl ?_
                                    refine sf_iconst sf_c4 (fun z384 ez384 => ?_)
                                    refine sf_iadd (by omega) (fun v385 ev385 => ?_)
                                    refine sf_sld (by omega) (fun v386 => ?_)
                                    clear ev385 ez384
                                    refine sf_aload rfl ?_
                                    refine sf_iload rfl ?_
                                    refine sf_iconst sf_c5 (fun z387 ez387 => ?_)
                                    refine sf_iadd (by omega) (fun v388 ev388 => ?_)
                                    refine sf_sld (by omega) (fun v389 => ?_)
                                    clear ev388 ez387
                                    refine sf_aload rfl ?_
                                    refine sf_iload rfl ?_
                                    refine sf_iconst sf_c6 (fun z390 ez390 => ?_)
                                    refine sf_iadd (by omega) (fun v391 ev391 => ?_)
                                    refine sf_sld (by omega) (fun v392 => ?_)
                                    clear ev391 ez390
                                    refine sf_aload rfl ?_
                                    refine sf_iload rfl ?_
                                    refine sf_iconst sf_c7 (fun z393 ez393 => ?_)
                                    refine sf_iadd (by omega) (fun v394 ev394 => ?_)
                                    refine sf_sld (by omega) (fun v395 => ?_)
                                    clear ev394 ez393
                                    refine sf_f1_eq (fun h396 => ?_) (fun h396 => ?_)
                                    · refine sf_iconst sf_c0 (fun z397 ez397 => ?_)
                                      refine sf_callv8 rfl (by omega) (by omega) ?_
                                      refine sf_rv Iw373 rfl ?_
                                      refine sc_M_line Iw373 (by omega) (by omega) (fun v398 w399 Iw399 tw399 lv398 uv398 => ?_)
                                      refine sf_istore (L' := [(5, .inl (.int v372)), (0, .inl (.ref 100000)), (1, .inl (.ref 0)), (2, .inl (.ref 71)), (3, .inl (.ref 130)), (4, .inl (.int x4))]) rfl ?_
                                      show kt_W_law_1404 N xs K _ _ _ _ _
                                      refine sf_iinc (L' := [(6, .inl (.int v398)), (5, .inl (.int v372)), (0, .inl (.ref 100000)), (1, .inl (.ref 0)), (2, .inl (.ref 71)), (3, .inl (.ref 130))]) (x := x4) sf_c8 rfl rfl (by omega) (fun v401 ev401 => ?_)
                                      refine sf_can (L' := [(0, .inl (.ref 100000)), (1, .inl (.ref 0)), (2, .inl (.ref 71)), (3, .inl (.ref 130)), (4, .inl (.int v401))]) rfl ?_
                                      exact ih _ _ _ _ Iw399 (by omega) (by omega) (by omega) (by omega)  (by omega)
                                    · refine sf_iconst sf_c1 (fun z402 ez402 => ?_)
                                      show kt_W_law_951 N xs K _ _ _ _ _
                                      refine sf_callv8 rfl (by omega) (by omega) ?_
                                      refine sf_rv Iw373 rfl ?_
                                      refine sc_M_line Iw373 (by omega) (by omega) (fun v403 w404 Iw404 tw404 lv403 uv403 => ?_)
                                      refine sf_istore (L' := [(5, .inl (.int v372)), (0, .inl (.ref 100000)), (1, .inl (.ref 0)), (2, .inl (.ref 71)), (3, .inl (.ref 130)), (4, .inl (.int x4))]) rfl ?_
                                      show kt_W_law_1404 N xs K _ _ _ _ _
                                      refine sf_iinc (L' := [(6, .inl (.int v403)), (5, .inl (.int v372)), (0, .inl (.ref 100000)), (1, .inl (.ref 0)), (2, .inl (.ref 71)), (3, .inl (.ref 130))]) (x := x4) sf_c8 rfl rfl (by omega) (fun v406 ev406 => ?_)
                                      refine sf_can (L' := [(0, .inl (.ref 100000)), (1, .inl (.ref 0)), (2, .inl (.ref 71)), (3, .inl (.ref 130)), (4, .inl (.int v406))]) rfl ?_
                                      exact ih _ _ _ _ Iw404 (by omega) (by omega) (by omega) (by omega)  (by omega)
                                  · refine sf_iconst sf_c1 (fun z407 ez407 => ?_)
                                    show kt_W_law_892 N xs K _ _ _ _ _
                                    refine sf_aload rfl ?_
                                    refine sf_callv9 rfl (by omega) (by omega) ?_
                                    refine sc_W_line_0_130 I_w (by omega) (by omega) (fun v408 w409 Iw409 tw409 lv408 uv408 => ?_)
                                    refine sf_istore (L' := [(0, .inl (.ref 100000)), (1, .inl (.ref 0)), (2, .inl (.ref 71)), (3, .inl (.ref 130)), (4, .inl (.int x4))]) rfl ?_
                                    refine sf_aload rfl ?_
                                    refine sf_aload rfl ?_
                                    refine sf_iload rfl ?_
                                    refine sf_iconst sf_c1 (fun z411 ez411 => ?_)
                                    refine sf_iadd (by omega) (fun v412 ev412 => ?_)
                                    refine sf_sld (by omega) (fun v413 => ?_)
                                    clear ev412 ez411
                                    refine sf_aload rfl ?_
                                    refine sf_iload rfl ?_
                                    refine sf_iconst sf_c2 (fun z414 ez414 => ?_)
                                    refine sf_iadd (by omega) (fun v415 ev415 => ?_)
                                    refine sf_sld (by omega) (fun v416 => ?_)
                                    clear ev415 ez414
                                    refine sf_aload rfl ?_
                                    refine sf_iload rfl ?_
                                    refine sf_iconst sf_c3 (fun z417 ez417 => ?_)
                                    refine sf_iadd (by omega) (fun v418 ev418 => ?_)
                                    refine sf_sld (by omega) (fun v419 => ?_)
                                    clear ev418 ez417
                                    refine sf_aload rfl ?_
                                    refine sf_iload rfl ?_
                                    refine sf_iconst sf_c4 (fun z420 ez420 => ?_)
                                    refine sf_iadd (by omega) (fun v421 ev421 => ?_)
                                    refine sf_sld (by omega) (fun v422 => ?_)
                                    clear ev421 ez420
                                    refine sf_aload rfl ?_
                                    refine sf_iload rfl ?_
                                    refine sf_iconst sf_c5 (fun z423 ez423 => ?_)
                                    refine sf_iadd (by omega) (fun v424 ev424 => ?_)
                                    refine sf_sld (by omega) (fun v425 => ?_)
                                    clear ev424 ez423
                                    refine sf_aload rfl ?_
                                    refine sf_iload rfl ?_
                                    refine sf_iconst sf_c6 (fun z426 ez426 => ?_)
                                    refine sf_iadd (by omega) (fun v427 ev427 => ?_)
                                    refine sf_sld (by omega) (fun v428 => ?_)
                                    clear ev427 ez426
                                    refine sf_aload rfl ?_
                                    refine sf_iload rfl ?_
                                    refine sf_iconst sf_c7 (fun z429 ez429 => ?_)
                                    refine sf_iadd (by omega) (fun v430 ev430 => ?_)
                                    refine sf_sld (by omega) (fun v431 => ?_)
                                    clear ev430 ez429
                                    refine sf_f1_eq (fun h432 => ?_) (fun h432 => ?_)
                                    · refine sf_iconst sf_c0 (fun z433 ez433 => ?_)
                                      refine sf_callv8 rfl (by omega) (by omega) ?_
                                      refine sf_rv Iw409 rfl ?_
                                      refine sc_M_line Iw409 (by omega) (by omega) (fun v434 w435 Iw435 tw435 lv434 uv434 => ?_)
                                      refine sf_istore (L' := [(5, .inl (.int v408)), (0, .inl (.ref 100000)), (1, .inl (.ref 0)), (2, .inl (.ref 71)), (3, .inl (.ref 130)), (4, .inl (.int x4))]) rfl ?_
                                      show kt_W_law_1404 N xs K _ _ _ _ _
                                      refine sf_iinc (L' := [(6, .inl (.int v434)), (5, .inl (.int v408)), (0, .inl (.ref 100000)), (1, .inl (.ref 0)), (2, .inl (.ref 71)), (3, .inl (.ref 130))]) (x := x4) sf_c8 rfl rfl (by omega) (fun v437 ev437 => ?_)
                                      refine sf_can (L' := [(0, .inl (.ref 100000)), (1, .inl (.ref 0)), (2, .inl (.ref 71)), (3, .inl (.ref 130)), (4, .inl (.int v437))]) rfl ?_
                                      exact ih _ _ _ _ Iw435 (by omega) (by omega) (by omega) (by omega)  (by omega)
                                    · refine sf_iconst sf_c1 (fun z438 ez438 => ?_)
                                      show kt_W_law_951 N xs K _ _ _ _ _
                                      refine sf_callv8 rfl (by omega) (by omega) ?_
                                      refine sf_rv Iw409 rfl ?_
                                      refine sc_M_line Iw409 (by omega) (by omega) (fun v439 w440 Iw440 tw440 lv439 uv439 => ?_)
                                      refine sf_istore (L' := [(5, .inl (.int v408)), (0, .inl (.ref 100000)), (1, .inl (.ref 0)), (2, .inl (.ref 71)), (3, .inl (.ref 130)), (4, .inl (.int x4))]) rfl ?_
                                      show kt_W_law_1404 N xs K _ _ _ _ _
                                      refine sf_iinc (L' := [(6, .inl (.int v439)), (5, .inl (.int v408)), (0, .inl (.ref 100000)), (1, .inl (.ref 0)), (2, .inl (.ref 71)), (3, .inl (.ref 130))]) (x := x4) sf_c8 rfl rfl (by omega) (fun v442 ev442 => ?_)
                                      refine sf_can (L' := [(0, .inl (.ref 100000)), (1, .inl (.ref 0)), (2, .inl (.ref 71)), (3, .inl (.ref 130)), (4, .inl (.int v442))]) rfl ?_
                                      exact ih _ _ _ _ Iw440 (by omega) (by omega) (by omega) (by omega)  (by omega)
                                · clear h348
                                  refine sf_sw1 sf_c14 (fun h443 => ?_) (fun h443 => ?_)
                                  · refine sf_aload rfl ?_
                                    refine sf_aload rfl ?_
                                    refine sf_iload rfl ?_
                                    refine sf_iconst sf_c1 (fun z444 ez444 => ?_)
                                    refine sf_iadd (by omega) (fun v445 ev445 => ?_)
                                    refine sf_sld (by omega) (fun v446 => ?_)
                                    clear ev445 ez444
                                    refine sf_aload rfl ?_
                                    refine sf_iload rfl ?_
                                    refine sf_iconst sf_c2 (fun z447 ez447 => ?_)
                                    refine sf_iadd (by omega) (fun v448 ev448 => ?_)
                                    refine sf_sld (by omega) (fun v449 => ?_)
                                    clear ev448 ez447
                                    refine sf_aload rfl ?_
                                    refine sf_iload rfl ?_
                                    refine sf_iconst sf_c3 (fun z450 ez450 => ?_)
                                    refine sf_iadd (by omega) (fun v451 ev451 => ?_)
                                    refine sf_sld (by omega) (fun v452 => ?_)
                                    clear ev451 ez450
                                    refine sf_callv4 rfl (by omega) (by omega) ?_
                                    refine sc_W_charge_0 I_w  (fun v453 w454 Iw454 tw454 lv453 uv453 => ?_)
                                    refine sf_istore (L' := [(0, .inl (.ref 100000)), (1, .inl (.ref 0)), (2, .inl (.ref 71)), (3, .inl (.ref 130)), (4, .inl (.int x4))]) rfl ?_
                                    refine sf_aload rfl ?_
                                    refine sf_aload rfl ?_
                                    refine sf_iload rfl ?_
                                    refine sf_iconst sf_c1 (fun z456 ez456 => ?_)
                                    refine sf_iadd (by omega) (fun v457 ev457 => ?_)
                                    refine sf_sld (by omega) (fun v458 => ?_)
                                    clear ev457 ez456
                                    refine sf_aload rfl ?_
                                    refine sf_iload rfl ?_
                                    refine sf_iconst sf_c2 (fun z459 ez459 => ?_)
                                    refine sf_iadd (by omega) (fun v460 ev460 => ?_)
                                    refine sf_sld (by omega) (fun v461 => ?_)
                                    clear ev460 ez459
                                    refine sf_aload rfl ?_
                                    refine sf_iload rfl ?_
                                    refine sf_iconst sf_c3 (fun z462 ez462 => ?_)
                                    refine sf_iadd (by omega) (fun v463 ev463 => ?_)
                                    refine sf_sld (by omega) (fun v464 => ?_)
                                    clear ev463 ez462
                                    refine sf_callv4 rfl (by omega) (by omega) ?_
                                    refine sf_rv Iw454 rfl ?_
                                    refine sc_M_charge Iw454  (fun w465 Iw465 tw465 => ?_)
                                    show kt_W_law_1404 N xs K _ _ _ _ _
                                    refine sf_iinc (L' := [(5, .inl (.int v453)), (0, .inl (.ref 100000)), (1, .inl (.ref 0)), (2, .inl (.ref 71)), (3, .inl (.ref 130))]) (x := x4) sf_c8 rfl rfl (by omega) (fun v467 ev467 => ?_)
                                    refine sf_can (L' := [(0, .inl (.ref 100000)), (1, .inl (.ref 0)), (2, .inl (.ref 71)), (3, .inl (.ref 130)), (4, .inl (.int v467))]) rfl ?_
                                    exact ih _ _ _ _ Iw465 (by omega) (by omega) (by omega) (by omega)  (by omega)
                                  · clear h443
                                    refine sf_sw1 sf_c15 (fun h468 => ?_) (fun h468 => ?_)
                                    · refine sf_aload rfl ?_
                                      refine sf_aload rfl ?_
                                      refine sf_iload rfl ?_
                                      refine sf_iconst sf_c1 (fun z469 ez469 => ?_)
                                      refine sf_iadd (by omega) (fun v470 ev470 => ?_)
                                      refine sf_sld (by omega) (fun v471 => ?_)
                                      clear ev470 ez469
                                      refine sf_aload rfl ?_
                                      refine sf_iload rfl ?_
                                      refine sf_iconst sf_c2 (fun z472 ez472 => ?_)
                                      refine sf_iadd (by omega) (fun v473 ev473 => ?_)
                                      refine sf_sld (by omega) (fun v474 => ?_)
                                      clear ev473 ez472
                                      refine sf_aload rfl ?_
                                      refine sf_iload rfl ?_
                                      refine sf_iconst sf_c3 (fun z475 ez475 => ?_)
                                      refine sf_iadd (by omega) (fun v476 ev476 => ?_)
                                      refine sf_sld (by omega) (fun v477 => ?_)
                                      clear ev476 ez475
                                      refine sf_aload rfl ?_
                                      refine sf_callv5 rfl (by omega) (by omega) ?_
                                      refine sc_W_lineOf_0_130 I_w  (fun v478 w479 Iw479 tw479 lv478 uv478 => ?_)
                                      refine sf_istore (L' := [(0, .inl (.ref 100000)), (1, .inl (.ref 0)), (2, .inl (.ref 71)), (3, .inl (.ref 130)), (4, .inl (.int x4))]) rfl ?_
                                      refine sf_aload rfl ?_
                                      refine sf_aload rfl ?_
                                      refine sf_iload rfl ?_
                                      refine sf_iconst sf_c1 (fun z481 ez481 => ?_)
                                      refine sf_iadd (by omega) (fun v482 ev482 => ?_)
                                      refine sf_sld (by omega) (fun v483 => ?_)
                                      clear ev482 ez481
                                      refine sf_aload rfl ?_
                                      refine sf_iload rfl ?_
                                      refine sf_iconst sf_c2 (fun z484 ez484 => ?_)
                                      refine sf_iadd (by omega) (fun v485 ev485 => ?_)
                                      refine sf_sld (by omega) (fun v486 => ?_)
                                      clear ev485 ez484
                                      refine sf_aload rfl ?_
                                      refine sf_iload rfl ?_
                                      refine sf_iconst sf_c3 (fun z487 ez487 => ?_)
                                      refine sf_iadd (by omega) (fun v488 ev488 => ?_)
                                      refine sf_sld (by omega) (fun v489 => ?_)
                                      clear ev488 ez487
                                      refine sf_callv4 rfl (by omega) (by omega) ?_
                                      refine sf_rv Iw479 rfl ?_
                                      refine sc_M_lineOf Iw479  (fun v490 w491 Iw491 tw491 => ?_)
                                      refine sf_lstore (L' := [(5, .inl (.int v478)), (0, .inl (.ref 100000)), (1, .inl (.ref 0)), (2, .inl (.ref 71)), (3, .inl (.ref 130)), (4, .inl (.int x4))]) rfl ?_
                                      show kt_W_law_1404 N xs K _ _ _ _ _
                                      refine sf_iinc (L' := [(6, .inl (.long v490)), (5, .inl (.int v478)), (0, .inl (.ref 100000)), (1, .inl (.ref 0)), (2, .inl (.ref 71)), (3, .inl (.ref 130))]) (x := x4) sf_c8 rfl rfl (by omega) (fun v493 ev493 => ?_)
                                      refine sf_can (L' := [(0, .inl (.ref 100000)), (1, .inl (.ref 0)), (2, .inl (.ref 71)), (3, .inl (.ref 130)), (4, .inl (.int v493))]) rfl ?_
                                      exact ih _ _ _ _ Iw491 (by omega) (by omega) (by omega) (by omega)  (by omega)
                                    · clear h468
                                      refine sf_sw1 sf_c16 (fun h494 => ?_) (fun h494 => ?_)
                                      · refine sf_aload rfl ?_
                                        refine sf_aload rfl ?_
                                        refine sf_iload rfl ?_
                                        refine sf_iconst sf_c1 (fun z495 ez495 => ?_)
                                        refine sf_iadd (by omega) (fun v496 ev496 => ?_)
                                        refine sf_sld (by omega) (fun v497 => ?_)
                                        clear ev496 ez495
                                        refine sf_aload rfl ?_
                                        refine sf_callv3 rfl (by omega) (by omega) ?_
                                        refine sc_W_accept_0_130 I_w  (fun v498 w499 Iw499 tw499 lv498 uv498 => ?_)
                                        refine sf_istore (L' := [(0, .inl (.ref 100000)), (1, .inl (.ref 0)), (2, .inl (.ref 71)), (3, .inl (.ref 130)), (4, .inl (.int x4))]) rfl ?_
                                        refine sf_aload rfl ?_
                                        refine sf_aload rfl ?_
                                        refine sf_iload rfl ?_
                                        refine sf_iconst sf_c1 (fun z501 ez501 => ?_)
                                        refine sf_iadd (by omega) (fun v502 ev502 => ?_)
                                        refine sf_sld (by omega) (fun v503 => ?_)
                                        clear ev502 ez501
                                        refine sf_callv2 rfl (by omega) (by omega) ?_
                                        refine sf_rv Iw499 rfl ?_
                                        refine sc_M_accept Iw499  (fun v504 w505 Iw505 tw505 => ?_)
                                        refine sf_lstore (L' := [(5, .inl (.int v498)), (0, .inl (.ref 100000)), (1, .inl (.ref 0)), (2, .inl (.ref 71)), (3, .inl (.ref 130)), (4, .inl (.int x4))]) rfl ?_
                                        show kt_W_law_1404 N xs K _ _ _ _ _
                                        refine sf_iinc (L' := [(6, .inl (.long v504)), (5, .inl (.int v498)), (0, .inl (.ref 100000)), (1, .inl (.ref 0)), (2, .inl (.ref 71)), (3, .inl (.ref 130))]) (x := x4) sf_c8 rfl rfl (by omega) (fun v507 ev507 => ?_)
                                        refine sf_can (L' := [(0, .inl (.ref 100000)), (1, .inl (.ref 0)), (2, .inl (.ref 71)), (3, .inl (.ref 130)), (4, .inl (.int v507))]) rfl ?_
                                        exact ih _ _ _ _ Iw505 (by omega) (by omega) (by omega) (by omega)  (by omega)
                                      · clear h494
                                        refine sf_sw1 sf_c17 (fun h508 => ?_) (fun h508 => ?_)
                                        · refine sf_aload rfl ?_
                                          refine sf_aload rfl ?_
                                          refine sf_iload rfl ?_
                                          refine sf_iconst sf_c1 (fun z509 ez509 => ?_)
                                          refine sf_iadd (by omega) (fun v510 ev510 => ?_)
                                          refine sf_sld (by omega) (fun v511 => ?_)
                                          clear ev510 ez509
                                          refine sf_aload rfl ?_
                                          refine sf_iload rfl ?_
                                          refine sf_iconst sf_c2 (fun z512 ez512 => ?_)
                                          refine sf_iadd (by omega) (fun v513 ev513 => ?_)
                                          refine sf_sld (by omega) (fun v514 => ?_)
                                          clear ev513 ez512
                                          refine sf_aload rfl ?_
                                          refine sf_iload rfl ?_
                                          refine sf_iconst sf_c3 (fun z515 ez515 => ?_)
                                          refine sf_iadd (by omega) (fun v516 ev516 => ?_)
                                          refine sf_sld (by omega) (fun v517 => ?_)
                                          clear ev516 ez515
                                          refine sf_aload rfl ?_
                                          refine sf_iload rfl ?_
                                          refine sf_iconst sf_c4 (fun z518 ez518 => ?_)
                                          refine sf_iadd (by omega) (fun v519 ev519 => ?_)
                                          refine sf_sld (by omega) (fun v520 => ?_)
                                          clear ev519 ez518
                                          refine sf_aload rfl ?_
                                          refine sf_callv6 rfl (by omega) (by omega) ?_
                                          refine sc_W_amend_0_130 I_w  (fun v521 w522 Iw522 tw522 lv521 uv521 => ?_)
                                          refine sf_istore (L' := [(0, .inl (.ref 100000)), (1, .inl (.ref 0)), (2, .inl (.ref 71)), (3, .inl (.ref 130)), (4, .inl (.int x4))]) rfl ?_
                                          refine sf_aload rfl ?_
                                          refine sf_aload rfl ?_
                                          refine sf_iload rfl ?_
                                          refine sf_iconst sf_c1 (fun z524 ez524 => ?_)
                                          refine sf_iadd (by omega) (fun v525 ev525 => ?_)
                                          refine sf_sld (by omega) (fun v526 => ?_)
                                          clear ev525 ez524
                                          refine sf_aload rfl ?_
                                          refine sf_iload rfl ?_
                                          refine sf_iconst sf_c2 (fun z527 ez527 => ?_)
                                          refine sf_iadd (by omega) (fun v528 ev528 => ?_)
                                          refine sf_sld (by omega) (fun v529 => ?_)
                                          clear ev528 ez527
                                          refine sf_aload rfl ?_
                                          refine sf_iload rfl ?_
                                          refine sf_iconst sf_c3 (fun z530 ez530 => ?_)
                                          refine sf_iadd (by omega) (fun v531 ev531 => ?_)
                                          refine sf_sld (by omega) (fun v532 => ?_)
                                          clear ev531 ez530
                                          refine sf_aload rfl ?_
                                          refine sf_iload rfl ?_
                                          refine sf_iconst sf_c4 (fun z533 ez533 => ?_)
                                          refine sf_iadd (by omega) (fun v534 ev534 => ?_)
                                          refine sf_sld (by omega) (fun v535 => ?_)
                                          clear ev534 ez533
                                          refine sf_callv5 rfl (by omega) (by omega) ?_
                                          refine sf_rv Iw522 rfl ?_
                                          refine sc_M_amend Iw522  (fun v536 w537 Iw537 tw537 => ?_)
                                          refine sf_lstore (L' := [(5, .inl (.int v521)), (0, .inl (.ref 100000)), (1, .inl (.ref 0)), (2, .inl (.ref 71)), (3, .inl (.ref 130)), (4, .inl (.int x4))]) rfl ?_
                                          show kt_W_law_1404 N xs K _ _ _ _ _
                                          refine sf_iinc (L' := [(6, .inl (.long v536)), (5, .inl (.int v521)), (0, .inl (.ref 100000)), (1, .inl (.ref 0)), (2, .inl (.ref 71)), (3, .inl (.ref 130))]) (x := x4) sf_c8 rfl rfl (by omega) (fun v539 ev539 => ?_)
                                          refine sf_can (L' := [(0, .inl (.ref 100000)), (1, .inl (.ref 0)), (2, .inl (.ref 71)), (3, .inl (.ref 130)), (4, .inl (.int v539))]) rfl ?_
                                          exact ih _ _ _ _ Iw537 (by omega) (by omega) (by omega) (by omega)  (by omega)
                                        · clear h508
                                          refine sf_sw1 sf_c18 (fun h540 => ?_) (fun h540 => ?_)
                                          · refine sf_aload rfl ?_
                                            refine sf_aload rfl ?_
                                            refine sf_iload rfl ?_
                                            refine sf_iconst sf_c1 (fun z541 ez541 => ?_)
                                            refine sf_iadd (by omega) (fun v542 ev542 => ?_)
                                            refine sf_sld (by omega) (fun v543 => ?_)
                                            clear ev542 ez541
                                            refine sf_aload rfl ?_
                                            refine sf_iload rfl ?_
                                            refine sf_iconst sf_c2 (fun z544 ez544 => ?_)
                                            refine sf_iadd (by omega) (fun v545 ev545 => ?_)
                                            refine sf_sld (by omega) (fun v546 => ?_)
                                            clear ev545 ez544
                                            refine sf_aload rfl ?_
                                            refine sf_callv4 rfl (by omega) (by omega) ?_
                                            refine sc_W_release_0_130 I_w  (fun v547 w548 Iw548 tw548 lv547 uv547 => ?_)
                                            refine sf_istore (L' := [(0, .inl (.ref 100000)), (1, .inl (.ref 0)), (2, .inl (.ref 71)), (3, .inl (.ref 130)), (4, .inl (.int x4))]) rfl ?_
                                            refine sf_aload rfl ?_
                                            refine sf_aload rfl ?_
                                            refine sf_iload rfl ?_
                                            refine sf_iconst sf_c1 (fun z550 ez550 => ?_)
                                            refine sf_iadd (by omega) (fun v551 ev551 => ?_)
                                            refine sf_sld (by omega) (fun v552 => ?_)
                                            clear ev551 ez550
                                            refine sf_aload rfl ?_
                                            refine sf_iload rfl ?_
                                            refine sf_iconst sf_c2 (fun z553 ez553 => ?_)
                                            refine sf_iadd (by omega) (fun v554 ev554 => ?_)
                                            refine sf_sld (by omega) (fun v555 => ?_)
                                            clear ev554 ez553
                                            refine sf_callv3 rfl (by omega) (by omega) ?_
                                            refine sf_rv Iw548 rfl ?_
                                            refine sc_M_release Iw548  (fun v556 w557 Iw557 tw557 => ?_)
                                            refine sf_lstore (L' := [(5, .inl (.int v547)), (0, .inl (.ref 100000)), (1, .inl (.ref 0)), (2, .inl (.ref 71)), (3, .inl (.ref 130)), (4, .inl (.int x4))]) rfl ?_
                                            show kt_W_law_1404 N xs K _ _ _ _ _
                                            refine sf_iinc (L' := [(6, .inl (.long v556)), (5, .inl (.int v547)), (0, .inl (.ref 100000)), (1, .inl (.ref 0)), (2, .inl (.ref 71)), (3, .inl (.ref 130))]) (x := x4) sf_c8 rfl rfl (by omega) (fun v559 ev559 => ?_)
                                            refine sf_can (L' := [(0, .inl (.ref 100000)), (1, .inl (.ref 0)), (2, .inl (.ref 71)), (3, .inl (.ref 130)), (4, .inl (.int v559))]) rfl ?_
                                            exact ih _ _ _ _ Iw557 (by omega) (by omega) (by omega) (by omega)  (by omega)
                                          · clear h540
                                            refine sf_sw1 sf_c19 (fun h560 => ?_) (fun h560 => ?_)
                                            · refine sf_aload rfl ?_
                                              refine sf_aload rfl ?_
                                              refine sf_iload rfl ?_
                                              refine sf_iconst sf_c1 (fun z561 ez561 => ?_)
                                              refine sf_iadd (by omega) (fun v562 ev562 => ?_)
                                              refine sf_sld (by omega) (fun v563 => ?_)
                                              clear ev562 ez561
                                              refine sf_aload rfl ?_
                                              refine sf_iload rfl ?_
                                              refine sf_iconst sf_c2 (fun z564 ez564 => ?_)
                                              refine sf_iadd (by omega) (fun v565 ev565 => ?_)
                                              refine sf_sld (by omega) (fun v566 => ?_)
                                              clear ev565 ez564
                                              refine sf_aload rfl ?_
                                              refine sf_callv4 rfl (by omega) (by omega) ?_
                                              refine sc_W_export_0_130 I_w  (fun v567 w568 Iw568 tw568 lv567 uv567 => ?_)
                                              refine sf_istore (L' := [(0, .inl (.ref 100000)), (1, .inl (.ref 0)), (2, .inl (.ref 71)), (3, .inl (.ref 130)), (4, .inl (.int x4))]) rfl ?_
                                              refine sf_aload rfl ?_
                                              refine sf_aload rfl ?_
                                              refine sf_iload rfl ?_
                                              refine sf_iconst sf_c1 (fun z570 ez570 => ?_)
                                              refine sf_iadd (by omega) (fun v571 ev571 => ?_)
                                              refine sf_sld (by omega) (fun v572 => ?_)
                                              clear ev571 ez570
                                              refine sf_aload rfl ?_
                                              refine sf_iload rfl ?_
                                              refine sf_iconst sf_c2 (fun z573 ez573 => ?_)
                                              refine sf_iadd (by omega) (fun v574 ev574 => ?_)
                                              refine sf_sld (by omega) (fun v575 => ?_)
                                              clear ev574 ez573
                                              refine sf_callv3 rfl (by omega) (by omega) ?_
                                              refine sf_rv Iw568 rfl ?_
                                              refine sc_M_export Iw568  (fun v576 w577 Iw577 tw577 => ?_)
                                              refine sf_lstore (L' := [(5, .inl (.int v567)), (0, .inl (.ref 100000)), (1, .inl (.ref 0)), (2, .inl (.ref 71)), (3, .inl (.ref 130)), (4, .inl (.int x4))]) rfl ?_
                                              show kt_W_law_1404 N xs K _ _ _ _ _
                                              refine sf_iinc (L' := [(6, .inl (.long v576)), (5, .inl (.int v567)), (0, .inl (.ref 100000)), (1, .inl (.ref 0)), (2, .inl (.ref 71)), (3, .inl (.ref 130))]) (x := x4) sf_c8 rfl rfl (by omega) (fun v579 ev579 => ?_)
                                              refine sf_can (L' := [(0, .inl (.ref 100000)), (1, .inl (.ref 0)), (2, .inl (.ref 71)), (3, .inl (.ref 130)), (4, .inl (.int v579))]) rfl ?_
                                              exact ih _ _ _ _ Iw577 (by omega) (by omega) (by omega) (by omega)  (by omega)
                                            · clear h560
                                              refine sf_sw1 sf_c20 (fun h580 => ?_) (fun h580 => ?_)
                                              · refine sf_aload rfl ?_
                                                refine sf_aload rfl ?_
                                                refine sf_iload rfl ?_
                                                refine sf_iconst sf_c1 (fun z581 ez581 => ?_)
                                                refine sf_iadd (by omega) (fun v582 ev582 => ?_)
                                                refine sf_sld (by omega) (fun v583 => ?_)
                                                clear ev582 ez581
                                                refine sf_aload rfl ?_
                                                refine sf_iload rfl ?_
                                                refine sf_iconst sf_c2 (fun z584 ez584 => ?_)
                                                refine sf_iadd (by omega) (fun v585 ev585 => ?_)
                                                refine sf_sld (by omega) (fun v586 => ?_)
                                                clear ev585 ez584
                                                refine sf_aload rfl ?_
                                                refine sf_iload rfl ?_
                                                refine sf_iconst sf_c3 (fun z587 ez587 => ?_)
                                                refine sf_iadd (by omega) (fun v588 ev588 => ?_)
                                                refine sf_sld (by omega) (fun v589 => ?_)
                                                clear ev588 ez587
                                                refine sf_aload rfl ?_
                                                refine sf_iload rfl ?_
                                                refine sf_iconst sf_c4 (fun z590 ez590 => ?_)
                                                refine sf_iadd (by omega) (fun v591 ev591 => ?_)
                                                refine sf_sld (by omega) (fun v592 => ?_)
                                                clear ev591 ez590
                                                refine sf_aload rfl ?_
                                                refine sf_callv6 rfl (by omega) (by omega) ?_
                                                refine sc_W_work_0_130 I_w  (fun v593 w594 Iw594 tw594 lv593 uv593 => ?_)
                                                refine sf_istore (L' := [(0, .inl (.ref 100000)), (1, .inl (.ref 0)), (2, .inl (.ref 71)), (3, .inl (.ref 130)), (4, .inl (.int x4))]) rfl ?_
                                                refine sf_aload rfl ?_
                                                refine sf_aload rfl ?_
                                                refine sf_iload rfl ?_
                                                refine sf_iconst sf_c1 (fun z596 ez596 => ?_)
                                                refine sf_iadd (by omega) (fun v597 ev597 => ?_)
                                                refine sf_sld (by omega) (fun v598 => ?_)
                                                clear ev597 ez596
                                                refine sf_aload rfl ?_
                                                refine sf_iload rfl ?_
                                                refine sf_iconst sf_c2 (fun z599 ez599 => ?_)
                                                refine sf_iadd (by omega) (fun v600 ev600 => ?_)
                                                refine sf_sld (by omega) (fun v601 => ?_)
                                                clear ev600 ez599
                                                refine sf_aload rfl ?_
                                                refine sf_iload rfl ?_
                                                refine sf_iconst sf_c3 (fun z602 ez602 => ?_)
                                                refine sf_iadd (by omega) (fun v603 ev603 => ?_)
                                                refine sf_sld (by omega) (fun v604 => ?_)
                                                clear ev603 ez602
                                                refine sf_aload rfl ?_
                                                refine sf_iload rfl ?_
                                                refine sf_iconst sf_c4 (fun z605 ez605 => ?_)
                                                refine sf_iadd (by omega) (fun v606 ev606 => ?_)
                                                refine sf_sld (by omega) (fun v607 => ?_)
                                                clear ev606 ez605
                                                refine sf_callv5 rfl (by omega) (by omega) ?_
                                                refine sf_rv Iw594 rfl ?_
                                                refine sc_M_work Iw594  (fun v608 w609 Iw609 tw609 lv608 uv608 => ?_)
                                                refine sf_istore (L' := [(5, .inl (.int v593)), (0, .inl (.ref 100000)), (1, .inl (.ref 0)), (2, .inl (.ref 71)), (3, .inl (.ref 130)), (4, .inl (.int x4))]) rfl ?_
                                                show kt_W_law_1404 N xs K _ _ _ _ _
                                                refine sf_iinc (L' := [(6, .inl (.int v608)), (5, .inl (.int v593)), (0, .inl (.ref 100000)), (1, .inl (.ref 0)), (2, .inl (.ref 71)), (3, .inl (.ref 130))]) (x := x4) sf_c8 rfl rfl (by omega) (fun v611 ev611 => ?_)
                                                refine sf_can (L' := [(0, .inl (.ref 100000)), (1, .inl (.ref 0)), (2, .inl (.ref 71)), (3, .inl (.ref 130)), (4, .inl (.int v611))]) rfl ?_
                                                exact ih _ _ _ _ Iw609 (by omega) (by omega) (by omega) (by omega)  (by omega)
                                              · clear h580
                                                refine sf_sw1 sf_c21 (fun h612 => ?_) (fun h612 => ?_)
                                                · refine sf_aload rfl ?_
                                                  refine sf_aload rfl ?_
                                                  refine sf_iload rfl ?_
                                                  refine sf_iconst sf_c1 (fun z613 ez613 => ?_)
                                                  refine sf_iadd (by omega) (fun v614 ev614 => ?_)
                                                  refine sf_sld (by omega) (fun v615 => ?_)
                                                  clear ev614 ez613
                                                  refine sf_aload rfl ?_
                                                  refine sf_iload rfl ?_
                                                  refine sf_iconst sf_c2 (fun z616 ez616 => ?_)
                                                  refine sf_iadd (by omega) (fun v617 ev617 => ?_)
                                                  refine sf_sld (by omega) (fun v618 => ?_)
                                                  clear ev617 ez616
                                                  refine sf_aload rfl ?_
                                                  refine sf_callv4 rfl (by omega) (by omega) ?_
                                                  refine sc_W_lot_0_130 I_w  (fun v619 w620 Iw620 tw620 lv619 uv619 => ?_)
                                                  refine sf_istore (L' := [(0, .inl (.ref 100000)), (1, .inl (.ref 0)), (2, .inl (.ref 71)), (3, .inl (.ref 130)), (4, .inl (.int x4))]) rfl ?_
                                                  refine sf_aload rfl ?_
                                                  refine sf_aload rfl ?_
                                                  refine sf_iload rfl ?_
                                                  refine sf_iconst sf_c1 (fun z622 ez622 => ?_)
                                                  refine sf_iadd (by omega) (fun v623 ev623 => ?_)
                                                  refine sf_sld (by omega) (fun v624 => ?_)
                                                  clear ev623 ez622
                                                  refine sf_aload rfl ?_
                                                  refine sf_iload rfl ?_
                                                  refine sf_iconst sf_c2 (fun z625 ez625 => ?_)
                                                  refine sf_iadd (by omega) (fun v626 ev626 => ?_)
                                                  refine sf_sld (by omega) (fun v627 => ?_)
                                                  clear ev626 ez625
                                                  refine sf_callv3 rfl (by omega) (by omega) ?_
                                                  refine sf_rv Iw620 rfl ?_
                                                  refine sc_M_lot Iw620  (fun v628 w629 Iw629 tw629 => ?_)
                                                  refine sf_lstore (L' := [(5, .inl (.int v619)), (0, .inl (.ref 100000)), (1, .inl (.ref 0)), (2, .inl (.ref 71)), (3, .inl (.ref 130)), (4, .inl (.int x4))]) rfl ?_
                                                  show kt_W_law_1404 N xs K _ _ _ _ _
                                                  refine sf_iinc (L' := [(6, .inl (.long v628)), (5, .inl (.int v619)), (0, .inl (.ref 100000)), (1, .inl (.ref 0)), (2, .inl (.ref 71)), (3, .inl (.ref 130))]) (x := x4) sf_c8 rfl rfl (by omega) (fun v631 ev631 => ?_)
                                                  refine sf_can (L' := [(0, .inl (.ref 100000)), (1, .inl (.ref 0)), (2, .inl (.ref 71)), (3, .inl (.ref 130)), (4, .inl (.int v631))]) rfl ?_
                                                  exact ih _ _ _ _ Iw629 (by omega) (by omega) (by omega) (by omega)  (by omega)
                                                · clear h612
                                                  refine sf_sw1 sf_c22 (fun h632 => ?_) (fun h632 => ?_)
                                                  · refine sf_aload rfl ?_
                                                    refine sf_aload rfl ?_
                                                    refine sf_iload rfl ?_
                                                    refine sf_iconst sf_c1 (fun z633 ez633 => ?_)
                                                    refine sf_iadd (by omega) (fun v634 ev634 => ?_)
                                                    refine sf_sld (by omega) (fun v635 => ?_)
                                                    clear ev634 ez633
                                                    refine sf_aload rfl ?_
                                                    refine sf_iload rfl ?_
                                                    refine sf_iconst sf_c2 (fun z636 ez636 => ?_)
                                                    refine sf_iadd (by omega) (fun v637 ev637 => ?_)
                                                    refine sf_sld (by omega) (fun v638 => ?_)
                                                    clear ev637 ez636
                                                    refine sf_aload rfl ?_
                                                    refine sf_callv4 rfl (by omega) (by omega) ?_
                                                    refine sc_W_account_0_130 I_w  (fun v639 w640 Iw640 tw640 lv639 uv639 => ?_)
                                                    refine sf_istore (L' := [(0, .inl (.ref 100000)), (1, .inl (.ref 0)), (2, .inl (.ref 71)), (3, .inl (.ref 130)), (4, .inl (.int x4))]) rfl ?_
                                                    refine sf_aload rfl ?_
                                                    refine sf_aload rfl ?_
                                                    refine sf_iload rfl ?_
                                                    refine sf_iconst sf_c1 (fun z642 ez642 => ?_)
                                                    refine sf_iadd (by omega) (fun v643 ev643 => ?_)
                                                    refine sf_sld (by omega) (fun v644 => ?_)
                                                    clear ev643 ez642
                                                    refine sf_aload rfl ?_
                                                    refine sf_iload rfl ?_
                                                    refine sf_iconst sf_c2 (fun z645 ez645 => ?_)
                                                    refine sf_iadd (by omega) (fun v646 ev646 => ?_)
                                                    refine sf_sld (by omega) (fun v647 => ?_)
                                                    clear ev646 ez645
                                                    refine sf_callv3 rfl (by omega) (by omega) ?_
                                                    refine sf_rv Iw640 rfl ?_
                                                    refine sc_M_account Iw640  (fun v648 w649 Iw649 tw649 => ?_)
                                                    refine sf_lstore (L' := [(5, .inl (.int v639)), (0, .inl (.ref 100000)), (1, .inl (.ref 0)), (2, .inl (.ref 71)), (3, .inl (.ref 130)), (4, .inl (.int x4))]) rfl ?_
                                                    show kt_W_law_1404 N xs K _ _ _ _ _
                                                    refine sf_iinc (L' := [(6, .inl (.long v648)), (5, .inl (.int v639)), (0, .inl (.ref 100000)), (1, .inl (.ref 0)), (2, .inl (.ref 71)), (3, .inl (.ref 130))]) (x := x4) sf_c8 rfl rfl (by omega) (fun v651 ev651 => ?_)
                                                    refine sf_can (L' := [(0, .inl (.ref 100000)), (1, .inl (.ref 0)), (2, .inl (.ref 71)), (3, .inl (.ref 130)), (4, .inl (.int v651))]) rfl ?_
                                                    exact ih _ _ _ _ Iw649 (by omega) (by omega) (by omega) (by omega)  (by omega)
                                                  · clear h632
                                                    refine sf_sw1 sf_c23 (fun h652 => ?_) (fun h652 => ?_)
                                                    · refine sf_aload rfl ?_
                                                      refine sf_aload rfl ?_
                                                      refine sf_iload rfl ?_
                                                      refine sf_iconst sf_c1 (fun z653 ez653 => ?_)
                                                      refine sf_iadd (by omega) (fun v654 ev654 => ?_)
                                                      refine sf_sld (by omega) (fun v655 => ?_)
                                                      clear ev654 ez653
                                                      refine sf_aload rfl ?_
                                                      refine sf_callv3 rfl (by omega) (by omega) ?_
                                                      refine sc_W_books_0_130 I_w  (fun v656 w657 Iw657 tw657 lv656 uv656 => ?_)
                                                      refine sf_istore (L' := [(0, .inl (.ref 100000)), (1, .inl (.ref 0)), (2, .inl (.ref 71)), (3, .inl (.ref 130)), (4, .inl (.int x4))]) rfl ?_
                                                      refine sf_aload rfl ?_
                                                      refine sf_aload rfl ?_
                                                      refine sf_iload rfl ?_
                                                      refine sf_iconst sf_c1 (fun z659 ez659 => ?_)
                                                      refine sf_iadd (by omega) (fun v660 ev660 => ?_)
                                                      refine sf_sld (by omega) (fun v661 => ?_)
                                                      clear ev660 ez659
                                                      refine sf_callv2 rfl (by omega) (by omega) ?_
                                                      refine sf_rv Iw657 rfl ?_
                                                      refine sc_M_books Iw657  (fun v662 w663 Iw663 tw663 => ?_)
                                                      refine sf_lstore (L' := [(5, .inl (.int v656)), (0, .inl (.ref 100000)), (1, .inl (.ref 0)), (2, .inl (.ref 71)), (3, .inl (.ref 130)), (4, .inl (.int x4))]) rfl ?_
                                                      show kt_W_law_1404 N xs K _ _ _ _ _
                                                      refine sf_iinc (L' := [(6, .inl (.long v662)), (5, .inl (.int v656)), (0, .inl (.ref 100000)), (1, .inl (.ref 0)), (2, .inl (.ref 71)), (3, .inl (.ref 130))]) (x := x4) sf_c8 rfl rfl (by omega) (fun v665 ev665 => ?_)
                                                      refine sf_can (L' := [(0, .inl (.ref 100000)), (1, .inl (.ref 0)), (2, .inl (.ref 71)), (3, .inl (.ref 130)), (4, .inl (.int v665))]) rfl ?_
                                                      exact ih _ _ _ _ Iw663 (by omega) (by omega) (by omega) (by omega)  (by omega)
                                                    · clear h652
                                                      refine sf_sw0 ?_
                                                      refine sf_iinc (L' := [(0, .inl (.ref 100000)), (1, .inl (.ref 0)), (2, .inl (.ref 71)), (3, .inl (.ref 130))]) (x := x4) sf_c8 rfl rfl (by omega) (fun v666 ev666 => ?_)
                                                      refine sf_can (L' := [(0, .inl (.ref 100000)), (1, .inl (.ref 0)), (2, .inl (.ref 71)), (3, .inl (.ref 130)), (4, .inl (.int v666))]) rfl ?_
                                                      exact ih _ _ _ _ I_w (by omega) (by omega) (by omega) (by omega)  (by omega)
