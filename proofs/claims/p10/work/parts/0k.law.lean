set_option maxRecDepth 100000 in
set_option maxHeartbeats 40000000 in
theorem sc_law (N : Nat) (hN : N ≤ 4096) (xs : Nat → Int32) : ∀ n : Nat, ∀ (w : wq_W) (x4 : Int32) (a b : Nat), sf_I w → 0 ≤ x4.toInt → x4.toInt ≤ (N : Int) → (a : Int) ≤ 207 + 100 * x4.toInt → (b : Int) ≤ 4018 + 600 * x4.toInt → ((sf_f w 1 0).toInt = (sf_f w 71 1).toInt ∧ (sf_f w 1 5).toInt = (sf_f w 71 5).toInt ∧ (sf_f w 13 1).toInt = (sf_f w 71 10).toInt ∧ (sf_f w 21 1).toInt = (sf_f w 71 18).toInt ∧ (sf_f w 35 0).toInt = (sf_f w 71 35).toInt) → (sf_J (sf_a w 3) (sf_a w 72) (sf_f w 71 1).toInt) → (sf_K (sf_g w 10) (sf_a w 93)) → (sq_Z (sf_a w 34) (sf_a w 30) (sf_a w 94) (sf_a w 95)) → (N : Int) - x4.toInt < (n : Int) → ku_W_law N xs n 23 [(0, .inl (.ref 100000)), (1, .inl (.ref 0)), (2, .inl (.ref 71)), (3, .inl (.ref 130)), (4, .inl (.int x4))] [] w a b := by
  intro n
  induction n with
  | zero => intros; omega
  | succ n ih =>
    intro w x4 a b I_w l_x4 u_x4 ha hb f_0 f_1 f_2 f_3 hm
    show kh_W_law_23 N xs (ku_W_law N xs n) [(0, .inl (.ref 100000)), (1, .inl (.ref 0)), (2, .inl (.ref 71)), (3, .inl (.ref 130)), (4, .inl (.int x4))] [] w a b
    generalize ku_W_law N xs n = K at ih ⊢
    have hs : sf_m [] w w := sf_m0
    refine sf_iload rfl ?_
    refine sf_aload rfl ?_
    refine sf_slen hN (fun z1 ez1 => ?_)
    refine sf_iconst sf_c8 (fun z2 ez2 => ?_)
    refine sf_isub (by omega) (fun v3 ev3 => ?_)
    refine sf_f2_gt (fun h4 => ?_) (fun h4 => ?_)
    · refine sf_iconst sf_c1 (fun z5 ez5 => ?_)
      exact sf_lend (by omega) (by omega) (by omega)
    · refine sf_aload rfl ?_
      refine sf_iload rfl ?_
      refine sf_sld (by omega) (fun v6 => ?_)
      refine sf_iconst sf_c31 (fun z7 ez7 => ?_)
      refine sf_iand (n := 31) (by omega) (by decide) (fun v8 lv8 uv8 => ?_)
      refine sf_sw1 sf_c0 (fun h9 => ?_) (fun h9 => ?_)
      · refine sf_aload rfl ?_
        refine sf_aload rfl ?_
        refine sf_iload rfl ?_
        refine sf_iconst sf_c1 (fun z10 ez10 => ?_)
        refine sf_iadd (by omega) (fun v11 ev11 => ?_)
        refine sf_sldk (x := x4) (k := 1) (by omega) (by omega) (by omega) ?_
        clear ev11 ez10
        refine sf_aload rfl ?_
        refine sf_callv3 rfl (by omega) (by omega) ?_
        refine sc_W_heading_0_130 I_w  (fun v12 w13 Iw13 tw13 lv12 uv12 q14_0 q14_1 => ?_)
        have c15 := sf_mf tw13 (p := 71) (j := 1) rfl
        have c16 := sf_mf tw13 (p := 1) (j := 5) rfl
        have c17 := sf_mf tw13 (p := 71) (j := 5) rfl
        have c18 := sf_mf tw13 (p := 13) (j := 1) rfl
        have c19 := sf_mf tw13 (p := 71) (j := 10) rfl
        have c20 := sf_mf tw13 (p := 21) (j := 1) rfl
        have c21 := sf_mf tw13 (p := 71) (j := 18) rfl
        have c22 := sf_mf tw13 (p := 35) (j := 0) rfl
        have c23 := sf_mf tw13 (p := 71) (j := 35) rfl
        have c24 := sf_ma tw13 (p := 72) rfl
        have c25 := sf_mg tw13 (p := 10) rfl
        have c26 := sf_ma tw13 (p := 93) rfl
        have c27 := sf_ma tw13 (p := 34) rfl
        have c28 := sf_ma tw13 (p := 30) rfl
        have c29 := sf_ma tw13 (p := 94) rfl
        have c30 := sf_ma tw13 (p := 95) rfl
        have F1 := q14_0
        have F2 := q14_1
        clear q14_0 q14_1
        have hHD : (sf_f w 1 0).toInt = (sf_f w 71 1).toInt := by omega
        rw [hHD] at F2
        refine sf_istore (L' := [(0, .inl (.ref 100000)), (1, .inl (.ref 0)), (2, .inl (.ref 71)), (3, .inl (.ref 130)), (4, .inl (.int x4))]) rfl ?_
        refine sf_aload rfl ?_
        refine sf_aload rfl ?_
        refine sf_iload rfl ?_
        refine sf_iconst sf_c1 (fun z31 ez31 => ?_)
        refine sf_iadd (by omega) (fun v32 ev32 => ?_)
        refine sf_sldk (x := x4) (k := 1) (by omega) (by omega) (by omega) ?_
        clear ev32 ez31
        refine sf_callv2 rfl (by omega) (by omega) ?_
        refine sf_rv Iw13 rfl ?_
        refine sc_M_heading Iw13 (by rw [c24]; rw [c15]; exact sf_J3 f_1 F2) (fun v33 w34 Iw34 tw34 lv33 uv33 q35_0 q35_1 => ?_)
        rw [c15] at q35_0
        rw [c24] at q35_1
        rw [c15] at q35_1
        have c36 := sf_mf tw34 (p := 1) (j := 0) rfl
        have c37 := sf_mf tw34 (p := 1) (j := 5) rfl
        have c38 := sf_mf tw34 (p := 71) (j := 5) rfl
        have c39 := sf_mf tw34 (p := 13) (j := 1) rfl
        have c40 := sf_mf tw34 (p := 71) (j := 10) rfl
        have c41 := sf_mf tw34 (p := 21) (j := 1) rfl
        have c42 := sf_mf tw34 (p := 71) (j := 18) rfl
        have c43 := sf_mf tw34 (p := 35) (j := 0) rfl
        have c44 := sf_mf tw34 (p := 71) (j := 35) rfl
        have c45 := sf_ma tw34 (p := 3) rfl
        have c46 := sf_mg tw34 (p := 10) rfl
        have c47 := sf_ma tw34 (p := 93) rfl
        have c48 := sf_mL tw34 (p := 130) rfl
        have c49 := sf_ma tw34 (p := 34) rfl
        have c50 := sf_ma tw34 (p := 30) rfl
        have c51 := sf_ma tw34 (p := 94) rfl
        have c52 := sf_ma tw34 (p := 95) rfl
        have G1 := q35_0
        have G2 := q35_1
        clear q35_0 q35_1
        have h00 := sf_hd I_w
        have hd3 : 0 ≤ (xs (x4.toInt.toNat + 1)).toInt → (xs (x4.toInt.toNat + 1)).toInt < (sf_f w 71 1).toInt → (sf_a w13 3 (xs (x4.toInt.toNat + 1)).toInt.toNat).toInt = (sf_a w 3 (xs (x4.toInt.toNat + 1)).toInt.toNat).toInt := fun h1 h2 => by rw [sf_F2d F2 h1 h2]
        have hrc : v12.toInt = (sf_f w34 71 0).toInt := by omega
        have hJ := sf_JH f_1 h00 F2 G2 hrc
        refine sf_istore (L' := [(5, .inl (.int v12)), (0, .inl (.ref 100000)), (1, .inl (.ref 0)), (2, .inl (.ref 71)), (3, .inl (.ref 130)), (4, .inl (.int x4))]) rfl ?_
        show kt_W_law_1421 N xs K _ _ _ _ _
        refine sf_iinc (L' := [(6, .inl (.int v33)), (5, .inl (.int v12)), (0, .inl (.ref 100000)), (1, .inl (.ref 0)), (2, .inl (.ref 71)), (3, .inl (.ref 130))]) (x := x4) sf_c8 rfl rfl (by omega) (fun v53 ev53 => ?_)
        refine sf_can (L' := [(0, .inl (.ref 100000)), (1, .inl (.ref 0)), (2, .inl (.ref 71)), (3, .inl (.ref 130)), (4, .inl (.int v53))]) rfl ?_
        exact ih _ _ _ _ Iw34 (by omega) (by omega) (by omega) (by omega) (by rw [c36]; rw [c37, c16]; rw [c38, c17]; rw [c39, c18]; rw [c40, c19]; rw [c41, c20]; rw [c42, c21]; rw [c43, c22]; rw [c44, c23]; omega) (by rw [c45]; first | exact f_1 | exact hJ) (by rw [c46, c25]; rw [c47, c26]; first | exact f_2 | exact hK2) (by rw [c49, c27]; rw [c50, c28]; rw [c51, c29]; rw [c52, c30]; exact f_3) (by omega)
      · clear h9
        refine sf_sw1 sf_c1 (fun h54 => ?_) (fun h54 => ?_)
        · refine sf_aload rfl ?_
          refine sf_aload rfl ?_
          refine sf_iload rfl ?_
          refine sf_iconst sf_c1 (fun z55 ez55 => ?_)
          refine sf_iadd (by omega) (fun v56 ev56 => ?_)
          refine sf_sldk (x := x4) (k := 1) (by omega) (by omega) (by omega) ?_
          clear ev56 ez55
          refine sf_aload rfl ?_
          refine sf_iload rfl ?_
          refine sf_iconst sf_c2 (fun z57 ez57 => ?_)
          refine sf_iadd (by omega) (fun v58 ev58 => ?_)
          refine sf_sldk (x := x4) (k := 2) (by omega) (by omega) (by omega) ?_
          clear ev58 ez57
          refine sf_aload rfl ?_
          refine sf_iload rfl ?_
          refine sf_iconst sf_c3 (fun z59 ez59 => ?_)
          refine sf_iadd (by omega) (fun v60 ev60 => ?_)
          refine sf_sldk (x := x4) (k := 3) (by omega) (by omega) (by omega) ?_
          clear ev60 ez59
          refine sf_aload rfl ?_
          refine sf_iload rfl ?_
          refine sf_iconst sf_c4 (fun z61 ez61 => ?_)
          refine sf_iadd (by omega) (fun v62 ev62 => ?_)
          refine sf_sldk (x := x4) (k := 4) (by omega) (by omega) (by omega) ?_
          clear ev62 ez61
          refine sf_aload rfl ?_
          refine sf_callv6 rfl (by omega) (by omega) ?_
          refine sc_W_note_0_130 I_w  (fun v63 w64 Iw64 tw64 lv63 uv63 q65_0 => ?_)
          have c66 := sf_mf tw64 (p := 1) (j := 0) rfl
          have c67 := sf_mf tw64 (p := 71) (j := 1) rfl
          have c68 := sf_mf tw64 (p := 71) (j := 5) rfl
          have c69 := sf_mf tw64 (p := 13) (j := 1) rfl
          have c70 := sf_mf tw64 (p := 71) (j := 10) rfl
          have c71 := sf_mf tw64 (p := 21) (j := 1) rfl
          have c72 := sf_mf tw64 (p := 71) (j := 18) rfl
          have c73 := sf_mf tw64 (p := 35) (j := 0) rfl
          have c74 := sf_mf tw64 (p := 71) (j := 35) rfl
          have c75 := sf_ma tw64 (p := 3) rfl
          have c76 := sf_ma tw64 (p := 72) rfl
          have c77 := sf_mg tw64 (p := 10) rfl
          have c78 := sf_ma tw64 (p := 93) rfl
          have c79 := sf_ma tw64 (p := 34) rfl
          have c80 := sf_ma tw64 (p := 30) rfl
          have c81 := sf_ma tw64 (p := 94) rfl
          have c82 := sf_ma tw64 (p := 95) rfl
          refine sf_istore (L' := [(0, .inl (.ref 100000)), (1, .inl (.ref 0)), (2, .inl (.ref 71)), (3, .inl (.ref 130)), (4, .inl (.int x4))]) rfl ?_
          refine sf_aload rfl ?_
          refine sf_aload rfl ?_
          refine sf_iload rfl ?_
          refine sf_iconst sf_c1 (fun z83 ez83 => ?_)
          refine sf_iadd (by omega) (fun v84 ev84 => ?_)
          refine sf_sldk (x := x4) (k := 1) (by omega) (by omega) (by omega) ?_
          clear ev84 ez83
          refine sf_aload rfl ?_
          refine sf_iload rfl ?_
          refine sf_iconst sf_c2 (fun z85 ez85 => ?_)
          refine sf_iadd (by omega) (fun v86 ev86 => ?_)
          refine sf_sldk (x := x4) (k := 2) (by omega) (by omega) (by omega) ?_
          clear ev86 ez85
          refine sf_aload rfl ?_
          refine sf_iload rfl ?_
          refine sf_iconst sf_c3 (fun z87 ez87 => ?_)
          refine sf_iadd (by omega) (fun v88 ev88 => ?_)
          refine sf_sldk (x := x4) (k := 3) (by omega) (by omega) (by omega) ?_
          clear ev88 ez87
          refine sf_aload rfl ?_
          refine sf_iload rfl ?_
          refine sf_iconst sf_c4 (fun z89 ez89 => ?_)
          refine sf_iadd (by omega) (fun v90 ev90 => ?_)
          refine sf_sldk (x := x4) (k := 4) (by omega) (by omega) (by omega) ?_
          clear ev90 ez89
          refine sf_callv5 rfl (by omega) (by omega) ?_
          refine sf_rv Iw64 rfl ?_
          refine sc_M_note Iw64  (fun v91 w92 Iw92 tw92 lv91 uv91 q93_0 => ?_)
          rw [c67] at q93_0
          rw [c68] at q93_0
          have c94 := sf_mf tw92 (p := 1) (j := 0) rfl
          have c95 := sf_mf tw92 (p := 71) (j := 1) rfl
          have c96 := sf_mf tw92 (p := 1) (j := 5) rfl
          have c97 := sf_mf tw92 (p := 13) (j := 1) rfl
          have c98 := sf_mf tw92 (p := 71) (j := 10) rfl
          have c99 := sf_mf tw92 (p := 21) (j := 1) rfl
          have c100 := sf_mf tw92 (p := 71) (j := 18) rfl
          have c101 := sf_mf tw92 (p := 35) (j := 0) rfl
          have c102 := sf_mf tw92 (p := 71) (j := 35) rfl
          have c103 := sf_ma tw92 (p := 3) rfl
          have c104 := sf_ma tw92 (p := 72) rfl
          have c105 := sf_mg tw92 (p := 10) rfl
          have c106 := sf_ma tw92 (p := 93) rfl
          have c107 := sf_mL tw92 (p := 130) rfl
          have c108 := sf_ma tw92 (p := 34) rfl
          have c109 := sf_ma tw92 (p := 30) rfl
          have c110 := sf_ma tw92 (p := 94) rfl
          have c111 := sf_ma tw92 (p := 95) rfl
          refine sf_istore (L' := [(5, .inl (.int v63)), (0, .inl (.ref 100000)), (1, .inl (.ref 0)), (2, .inl (.ref 71)), (3, .inl (.ref 130)), (4, .inl (.int x4))]) rfl ?_
          show kt_W_law_1421 N xs K _ _ _ _ _
          refine sf_iinc (L' := [(6, .inl (.int v91)), (5, .inl (.int v63)), (0, .inl (.ref 100000)), (1, .inl (.ref 0)), (2, .inl (.ref 71)), (3, .inl (.ref 130))]) (x := x4) sf_c8 rfl rfl (by omega) (fun v112 ev112 => ?_)
          refine sf_can (L' := [(0, .inl (.ref 100000)), (1, .inl (.ref 0)), (2, .inl (.ref 71)), (3, .inl (.ref 130)), (4, .inl (.int v112))]) rfl ?_
          exact ih _ _ _ _ Iw92 (by omega) (by omega) (by omega) (by omega) (by rw [c94, c66]; rw [c95, c67]; rw [c96]; rw [c97, c69]; rw [c98, c70]; rw [c99, c71]; rw [c100, c72]; rw [c101, c73]; rw [c102, c74]; omega) (by rw [c103, c75]; rw [c104, c76]; rw [c95, c67]; first | exact f_1 | exact hJ) (by rw [c105, c77]; rw [c106, c78]; first | exact f_2 | exact hK2) (by rw [c108, c79]; rw [c109, c80]; rw [c110, c81]; rw [c111, c82]; exact f_3) (by omega)
        · clear h54
          refine sf_sw1 sf_c2 (fun h113 => ?_) (fun h113 => ?_)
          · refine sf_aload rfl ?_
            refine sf_aload rfl ?_
            refine sf_iload rfl ?_
            refine sf_iconst sf_c1 (fun z114 ez114 => ?_)
            refine sf_iadd (by omega) (fun v115 ev115 => ?_)
            refine sf_sldk (x := x4) (k := 1) (by omega) (by omega) (by omega) ?_
            clear ev115 ez114
            refine sf_aload rfl ?_
            refine sf_iload rfl ?_
            refine sf_iconst sf_c2 (fun z116 ez116 => ?_)
            refine sf_iadd (by omega) (fun v117 ev117 => ?_)
            refine sf_sldk (x := x4) (k := 2) (by omega) (by omega) (by omega) ?_
            clear ev117 ez116
            refine sf_aload rfl ?_
            refine sf_iload rfl ?_
            refine sf_iconst sf_c3 (fun z118 ez118 => ?_)
            refine sf_iadd (by omega) (fun v119 ev119 => ?_)
            refine sf_sldk (x := x4) (k := 3) (by omega) (by omega) (by omega) ?_
            clear ev119 ez118
            refine sf_aload rfl ?_
            refine sf_callv5 rfl (by omega) (by omega) ?_
            refine sc_W_fact_0_130 I_w  (fun v120 w121 Iw121 tw121 lv120 uv120 q122_0 q122_1 => ?_)
            have c123 := sf_mf tw121 (p := 1) (j := 0) rfl
            have c124 := sf_mf tw121 (p := 71) (j := 1) rfl
            have c125 := sf_mf tw121 (p := 1) (j := 5) rfl
            have c126 := sf_mf tw121 (p := 71) (j := 5) rfl
            have c127 := sf_mf tw121 (p := 13) (j := 1) rfl
            have c128 := sf_mf tw121 (p := 71) (j := 10) rfl
            have c129 := sf_mf tw121 (p := 21) (j := 1) rfl
            have c130 := sf_mf tw121 (p := 71) (j := 18) rfl
            have c131 := sf_mf tw121 (p := 35) (j := 0) rfl
            have c132 := sf_mf tw121 (p := 71) (j := 35) rfl
            have c133 := sf_ma tw121 (p := 3) rfl
            have c134 := sf_ma tw121 (p := 72) rfl
            have c135 := sf_ma tw121 (p := 93) rfl
            have c136 := sf_ma tw121 (p := 34) rfl
            have c137 := sf_ma tw121 (p := 30) rfl
            have c138 := sf_ma tw121 (p := 94) rfl
            have c139 := sf_ma tw121 (p := 95) rfl
            have F1 := q122_0
            have F2 := q122_1
            clear q122_0 q122_1
            refine sf_istore (L' := [(0, .inl (.ref 100000)), (1, .inl (.ref 0)), (2, .inl (.ref 71)), (3, .inl (.ref 130)), (4, .inl (.int x4))]) rfl ?_
            refine sf_aload rfl ?_
            refine sf_aload rfl ?_
            refine sf_iload rfl ?_
            refine sf_iconst sf_c1 (fun z140 ez140 => ?_)
            refine sf_iadd (by omega) (fun v141 ev141 => ?_)
            refine sf_sldk (x := x4) (k := 1) (by omega) (by omega) (by omega) ?_
            clear ev141 ez140
            refine sf_aload rfl ?_
            refine sf_iload rfl ?_
            refine sf_iconst sf_c2 (fun z142 ez142 => ?_)
            refine sf_iadd (by omega) (fun v143 ev143 => ?_)
            refine sf_sldk (x := x4) (k := 2) (by omega) (by omega) (by omega) ?_
            clear ev143 ez142
            refine sf_aload rfl ?_
            refine sf_iload rfl ?_
            refine sf_iconst sf_c3 (fun z144 ez144 => ?_)
            refine sf_iadd (by omega) (fun v145 ev145 => ?_)
            refine sf_sldk (x := x4) (k := 3) (by omega) (by omega) (by omega) ?_
            clear ev145 ez144
            refine sf_callv4 rfl (by omega) (by omega) ?_
            refine sf_rv Iw121 rfl ?_
            refine sc_M_fact Iw121  (fun v146 w147 Iw147 tw147 q148_0 q148_1 => ?_)
            rw [c135] at q148_0
            rw [c135] at q148_1
            have c149 := sf_mf tw147 (p := 1) (j := 0) rfl
            have c150 := sf_mf tw147 (p := 71) (j := 1) rfl
            have c151 := sf_mf tw147 (p := 1) (j := 5) rfl
            have c152 := sf_mf tw147 (p := 71) (j := 5) rfl
            have c153 := sf_mf tw147 (p := 13) (j := 1) rfl
            have c154 := sf_mf tw147 (p := 71) (j := 10) rfl
            have c155 := sf_mf tw147 (p := 21) (j := 1) rfl
            have c156 := sf_mf tw147 (p := 71) (j := 18) rfl
            have c157 := sf_mf tw147 (p := 35) (j := 0) rfl
            have c158 := sf_mf tw147 (p := 71) (j := 35) rfl
            have c159 := sf_ma tw147 (p := 3) rfl
            have c160 := sf_ma tw147 (p := 72) rfl
            have c161 := sf_mg tw147 (p := 10) rfl
            have c162 := sf_mL tw147 (p := 130) rfl
            have c163 := sf_ma tw147 (p := 34) rfl
            have c164 := sf_ma tw147 (p := 30) rfl
            have c165 := sf_ma tw147 (p := 94) rfl
            have c166 := sf_ma tw147 (p := 95) rfl
            have G1 := q148_0
            have G2 := q148_1
            clear q148_0 q148_1
            have hK2 : sf_K (sf_g w121 10) (sf_a w147 93) := by
              rcases F2 with ⟨h1, h2⟩ | ⟨h1, h2, h3⟩ <;> rcases G2 with ⟨g1, g2⟩ | ⟨g1, g2, g3⟩
              · rw [h2, g2]; exact f_2
              · exfalso; omega
              · exfalso; omega
              · rw [h2, g2]; exact sf_KF f_2 (by omega) (by omega)
            have hKv : v120.toInt = 0 → (sf_g w 10 (xs (x4.toInt.toNat + 1)).toInt.toNat (xs (x4.toInt.toNat + 2)).toInt.toNat).toInt = (sf_a w 93 (8 * (xs (x4.toInt.toNat + 1)).toInt + (xs (x4.toInt.toNat + 2)).toInt).toNat).toInt := fun h1 => sf_Kv f_2 (by omega) (by omega)
            clear F2 G2
            refine sf_istore (L' := [(5, .inl (.int v120)), (0, .inl (.ref 100000)), (1, .inl (.ref 0)), (2, .inl (.ref 71)), (3, .inl (.ref 130)), (4, .inl (.int x4))]) rfl ?_
            show kt_W_law_1421 N xs K _ _ _ _ _
            refine sf_iinc (L' := [(6, .inl (.int v146)), (5, .inl (.int v120)), (0, .inl (.ref 100000)), (1, .inl (.ref 0)), (2, .inl (.ref 71)), (3, .inl (.ref 130))]) (x := x4) sf_c8 rfl rfl (by omega) (fun v167 ev167 => ?_)
            refine sf_can (L' := [(0, .inl (.ref 100000)), (1, .inl (.ref 0)), (2, .inl (.ref 71)), (3, .inl (.ref 130)), (4, .inl (.int v167))]) rfl ?_
            exact ih _ _ _ _ Iw147 (by omega) (by omega) (by omega) (by omega) (by rw [c149, c123]; rw [c150, c124]; rw [c151, c125]; rw [c152, c126]; rw [c153, c127]; rw [c154, c128]; rw [c155, c129]; rw [c156, c130]; rw [c157, c131]; rw [c158, c132]; omega) (by rw [c159, c133]; rw [c160, c134]; rw [c150, c124]; first | exact f_1 | exact hJ) (by rw [c161]; first | exact f_2 | exact hK2) (by rw [c163, c136]; rw [c164, c137]; rw [c165, c138]; rw [c166, c139]; exact f_3) (by omega)
          · clear h113
            refine sf_sw1 sf_c3 (fun h168 => ?_) (fun h168 => ?_)
            · refine sf_aload rfl ?_
              refine sf_aload rfl ?_
              refine sf_iload rfl ?_
              refine sf_iconst sf_c1 (fun z169 ez169 => ?_)
              refine sf_iadd (by omega) (fun v170 ev170 => ?_)
              refine sf_sldk (x := x4) (k := 1) (by omega) (by omega) (by omega) ?_
              clear ev170 ez169
              refine sf_aload rfl ?_
              refine sf_callv3 rfl (by omega) (by omega) ?_
              refine sc_W_classify_0_130 I_w  (fun v171 w172 Iw172 tw172 lv171 uv171 => ?_)
              have c174 := sf_mf tw172 (p := 1) (j := 0) rfl
              have c175 := sf_mf tw172 (p := 71) (j := 1) rfl
              have c176 := sf_mf tw172 (p := 1) (j := 5) rfl
              have c177 := sf_mf tw172 (p := 71) (j := 5) rfl
              have c178 := sf_mf tw172 (p := 13) (j := 1) rfl
              have c179 := sf_mf tw172 (p := 71) (j := 10) rfl
              have c180 := sf_mf tw172 (p := 21) (j := 1) rfl
              have c181 := sf_mf tw172 (p := 71) (j := 18) rfl
              have c182 := sf_mf tw172 (p := 35) (j := 0) rfl
              have c183 := sf_mf tw172 (p := 71) (j := 35) rfl
              have c184 := sf_ma tw172 (p := 3) rfl
              have c185 := sf_ma tw172 (p := 72) rfl
              have c186 := sf_mg tw172 (p := 10) rfl
              have c187 := sf_ma tw172 (p := 93) rfl
              have c188 := sf_ma tw172 (p := 34) rfl
              have c189 := sf_ma tw172 (p := 30) rfl
              have c190 := sf_ma tw172 (p := 94) rfl
              have c191 := sf_ma tw172 (p := 95) rfl
              refine sf_istore (L' := [(0, .inl (.ref 100000)), (1, .inl (.ref 0)), (2, .inl (.ref 71)), (3, .inl (.ref 130)), (4, .inl (.int x4))]) rfl ?_
              refine sf_aload rfl ?_
              refine sf_aload rfl ?_
              refine sf_iload rfl ?_
              refine sf_iconst sf_c1 (fun z192 ez192 => ?_)
              refine sf_iadd (by omega) (fun v193 ev193 => ?_)
              refine sf_sldk (x := x4) (k := 1) (by omega) (by omega) (by omega) ?_
              clear ev193 ez192
              refine sf_callv2 rfl (by omega) (by omega) ?_
              refine sf_rv Iw172 rfl ?_
              refine sc_M_classify Iw172  (fun v194 w195 Iw195 tw195 lv194 uv194 => ?_)
              have c197 := sf_mf tw195 (p := 1) (j := 0) rfl
              have c198 := sf_mf tw195 (p := 71) (j := 1) rfl
              have c199 := sf_mf tw195 (p := 1) (j := 5) rfl
              have c200 := sf_mf tw195 (p := 71) (j := 5) rfl
              have c201 := sf_mf tw195 (p := 13) (j := 1) rfl
              have c202 := sf_mf tw195 (p := 71) (j := 10) rfl
              have c203 := sf_mf tw195 (p := 21) (j := 1) rfl
              have c204 := sf_mf tw195 (p := 71) (j := 18) rfl
              have c205 := sf_mf tw195 (p := 35) (j := 0) rfl
              have c206 := sf_mf tw195 (p := 71) (j := 35) rfl
              have c207 := sf_ma tw195 (p := 3) rfl
              have c208 := sf_ma tw195 (p := 72) rfl
              have c209 := sf_mg tw195 (p := 10) rfl
              have c210 := sf_ma tw195 (p := 93) rfl
              have c211 := sf_mL tw195 (p := 130) rfl
              have c212 := sf_ma tw195 (p := 34) rfl
              have c213 := sf_ma tw195 (p := 30) rfl
              have c214 := sf_ma tw195 (p := 94) rfl
              have c215 := sf_ma tw195 (p := 95) rfl
              refine sf_istore (L' := [(5, .inl (.int v171)), (0, .inl (.ref 100000)), (1, .inl (.ref 0)), (2, .inl (.ref 71)), (3, .inl (.ref 130)), (4, .inl (.int x4))]) rfl ?_
              show kt_W_law_1421 N xs K _ _ _ _ _
              refine sf_iinc (L' := [(6, .inl (.int v194)), (5, .inl (.int v171)), (0, .inl (.ref 100000)), (1, .inl (.ref 0)), (2, .inl (.ref 71)), (3, .inl (.ref 130))]) (x := x4) sf_c8 rfl rfl (by omega) (fun v216 ev216 => ?_)
              refine sf_can (L' := [(0, .inl (.ref 100000)), (1, .inl (.ref 0)), (2, .inl (.ref 71)), (3, .inl (.ref 130)), (4, .inl (.int v216))]) rfl ?_
              exact ih _ _ _ _ Iw195 (by omega) (by omega) (by omega) (by omega) (by rw [c197, c174]; rw [c198, c175]; rw [c199, c176]; rw [c200, c177]; rw [c201, c178]; rw [c202, c179]; rw [c203, c180]; rw [c204, c181]; rw [c205, c182]; rw [c206, c183]; omega) (by rw [c207, c184]; rw [c208, c185]; rw [c198, c175]; first | exact f_1 | exact hJ) (by rw [c209, c186]; rw [c210, c187]; first | exact f_2 | exact hK2) (by rw [c212, c188]; rw [c213, c189]; rw [c214, c190]; rw [c215, c191]; exact f_3) (by omega)
            · clear h168
              refine sf_sw1 sf_c4 (fun h217 => ?_) (fun h217 => ?_)
              · refine sf_aload rfl ?_
                refine sf_aload rfl ?_
                refine sf_iload rfl ?_
                refine sf_iconst sf_c1 (fun z218 ez218 => ?_)
                refine sf_iadd (by omega) (fun v219 ev219 => ?_)
                refine sf_sldk (x := x4) (k := 1) (by omega) (by omega) (by omega) ?_
                clear ev219 ez218
                refine sf_aload rfl ?_
                refine sf_iload rfl ?_
                refine sf_iconst sf_c2 (fun z220 ez220 => ?_)
                refine sf_iadd (by omega) (fun v221 ev221 => ?_)
                refine sf_sldk (x := x4) (k := 2) (by omega) (by omega) (by omega) ?_
                clear ev221 ez220
                refine sf_aload rfl ?_
                refine sf_iload rfl ?_
                refine sf_iconst sf_c3 (fun z222 ez222 => ?_)
                refine sf_iadd (by omega) (fun v223 ev223 => ?_)
                refine sf_sldk (x := x4) (k := 3) (by omega) (by omega) (by omega) ?_
                clear ev223 ez222
                refine sf_aload rfl ?_
                refine sf_iload rfl ?_
                refine sf_iconst sf_c4 (fun z224 ez224 => ?_)
                refine sf_iadd (by omega) (fun v225 ev225 => ?_)
                refine sf_sldk (x := x4) (k := 4) (by omega) (by omega) (by omega) ?_
                clear ev225 ez224
                refine sf_aload rfl ?_
                refine sf_iload rfl ?_
                refine sf_iconst sf_c5 (fun z226 ez226 => ?_)
                refine sf_iadd (by omega) (fun v227 ev227 => ?_)
                refine sf_sldk (x := x4) (k := 5) (by omega) (by omega) (by omega) ?_
                clear ev227 ez226
                refine sf_aload rfl ?_
                refine sf_iload rfl ?_
                refine sf_iconst sf_c6 (fun z228 ez228 => ?_)
                refine sf_iadd (by omega) (fun v229 ev229 => ?_)
                refine sf_sldk (x := x4) (k := 6) (by omega) (by omega) (by omega) ?_
                clear ev229 ez228
                refine sf_aload rfl ?_
                refine sf_iload rfl ?_
                refine sf_iconst sf_c7 (fun z230 ez230 => ?_)
                refine sf_iadd (by omega) (fun v231 ev231 => ?_)
                refine sf_sldk (x := x4) (k := 7) (by omega) (by omega) (by omega) ?_
                clear ev231 ez230
                refine sf_aload rfl ?_
                refine sf_callv9 rfl (by omega) (by omega) ?_
                refine sc_W_rate_0_130 I_w  (fun v232 w233 Iw233 tw233 lv232 uv232 q234_0 => ?_)
                have c235 := sf_mf tw233 (p := 1) (j := 0) rfl
                have c236 := sf_mf tw233 (p := 71) (j := 1) rfl
                have c237 := sf_mf tw233 (p := 1) (j := 5) rfl
                have c238 := sf_mf tw233 (p := 71) (j := 5) rfl
                have c239 := sf_mf tw233 (p := 71) (j := 10) rfl
                have c240 := sf_mf tw233 (p := 21) (j := 1) rfl
                have c241 := sf_mf tw233 (p := 71) (j := 18) rfl
                have c242 := sf_mf tw233 (p := 35) (j := 0) rfl
                have c243 := sf_mf tw233 (p := 71) (j := 35) rfl
                have c244 := sf_ma tw233 (p := 3) rfl
                have c245 := sf_ma tw233 (p := 72) rfl
                have c246 := sf_mg tw233 (p := 10) rfl
                have c247 := sf_ma tw233 (p := 93) rfl
                have c248 := sf_ma tw233 (p := 34) rfl
                have c249 := sf_ma tw233 (p := 30) rfl
                have c250 := sf_ma tw233 (p := 94) rfl
                have c251 := sf_ma tw233 (p := 95) rfl
                refine sf_istore (L' := [(0, .inl (.ref 100000)), (1, .inl (.ref 0)), (2, .inl (.ref 71)), (3, .inl (.ref 130)), (4, .inl (.int x4))]) rfl ?_
                refine sf_aload rfl ?_
                refine sf_aload rfl ?_
                refine sf_iload rfl ?_
                refine sf_iconst sf_c1 (fun z252 ez252 => ?_)
                refine sf_iadd (by omega) (fun v253 ev253 => ?_)
                refine sf_sldk (x := x4) (k := 1) (by omega) (by omega) (by omega) ?_
                clear ev253 ez252
                refine sf_aload rfl ?_
                refine sf_iload rfl ?_
                refine sf_iconst sf_c2 (fun z254 ez254 => ?_)
                refine sf_iadd (by omega) (fun v255 ev255 => ?_)
                refine sf_sldk (x := x4) (k := 2) (by omega) (by omega) (by omega) ?_
                clear ev255 ez254
                refine sf_aload rfl ?_
                refine sf_iload rfl ?_
                refine sf_iconst sf_c3 (fun z256 ez256 => ?_)
                refine sf_iadd (by omega) (fun v257 ev257 => ?_)
                refine sf_sldk (x := x4) (k := 3) (by omega) (by omega) (by omega) ?_
                clear ev257 ez256
                refine sf_aload rfl ?_
                refine sf_iload rfl ?_
                refine sf_iconst sf_c4 (fun z258 ez258 => ?_)
                refine sf_iadd (by omega) (fun v259 ev259 => ?_)
                refine sf_sldk (x := x4) (k := 4) (by omega) (by omega) (by omega) ?_
                clear ev259 ez258
                refine sf_aload rfl ?_
                refine sf_iload rfl ?_
                refine sf_iconst sf_c5 (fun z260 ez260 => ?_)
                refine sf_iadd (by omega) (fun v261 ev261 => ?_)
                refine sf_sldk (x := x4) (k := 5) (by omega) (by omega) (by omega) ?_
                clear ev261 ez260
                refine sf_aload rfl ?_
                refine sf_iload rfl ?_
                refine sf_iconst sf_c6 (fun z262 ez262 => ?_)
                refine sf_iadd (by omega) (fun v263 ev263 => ?_)
                refine sf_sldk (x := x4) (k := 6) (by omega) (by omega) (by omega) ?_
                clear ev263 ez262
                refine sf_aload rfl ?_
                refine sf_iload rfl ?_
                refine sf_iconst sf_c7 (fun z264 ez264 => ?_)
                refine sf_iadd (by omega) (fun v265 ev265 => ?_)
                refine sf_sldk (x := x4) (k := 7) (by omega) (by omega) (by omega) ?_
                clear ev265 ez264
                refine sf_callv8 rfl (by omega) (by omega) ?_
                refine sf_rv Iw233 rfl ?_
                refine sc_M_rate Iw233  (fun v266 w267 Iw267 tw267 lv266 uv266 q268_0 => ?_)
                rw [c236] at q268_0
                rw [c239] at q268_0
                have c269 := sf_mf tw267 (p := 1) (j := 0) rfl
                have c270 := sf_mf tw267 (p := 71) (j := 1) rfl
                have c271 := sf_mf tw267 (p := 1) (j := 5) rfl
                have c272 := sf_mf tw267 (p := 71) (j := 5) rfl
                have c273 := sf_mf tw267 (p := 13) (j := 1) rfl
                have c274 := sf_mf tw267 (p := 21) (j := 1) rfl
                have c275 := sf_mf tw267 (p := 71) (j := 18) rfl
                have c276 := sf_mf tw267 (p := 35) (j := 0) rfl
                have c277 := sf_mf tw267 (p := 71) (j := 35) rfl
                have c278 := sf_ma tw267 (p := 3) rfl
                have c279 := sf_ma tw267 (p := 72) rfl
                have c280 := sf_mg tw267 (p := 10) rfl
                have c281 := sf_ma tw267 (p := 93) rfl
                have c282 := sf_mL tw267 (p := 130) rfl
                have c283 := sf_ma tw267 (p := 34) rfl
                have c284 := sf_ma tw267 (p := 30) rfl
                have c285 := sf_ma tw267 (p := 94) rfl
                have c286 := sf_ma tw267 (p := 95) rfl
                refine sf_istore (L' := [(5, .inl (.int v232)), (0, .inl (.ref 100000)), (1, .inl (.ref 0)), (2, .inl (.ref 71)), (3, .inl (.ref 130)), (4, .inl (.int x4))]) rfl ?_
                show kt_W_law_1421 N xs K _ _ _ _ _
                refine sf_iinc (L' := [(6, .inl (.int v266)), (5, .inl (.int v232)), (0, .inl (.ref 100000)), (1, .inl (.ref 0)), (2, .inl (.ref 71)), (3, .inl (.ref 130))]) (x := x4) sf_c8 rfl rfl (by omega) (fun v287 ev287 => ?_)
                refine sf_can (L' := [(0, .inl (.ref 100000)), (1, .inl (.ref 0)), (2, .inl (.ref 71)), (3, .inl (.ref 130)), (4, .inl (.int v287))]) rfl ?_
                exact ih _ _ _ _ Iw267 (by omega) (by omega) (by omega) (by omega) (by rw [c269, c235]; rw [c270, c236]; rw [c271, c237]; rw [c272, c238]; rw [c273]; rw [c274, c240]; rw [c275, c241]; rw [c276, c242]; rw [c277, c243]; omega) (by rw [c278, c244]; rw [c279, c245]; rw [c270, c236]; first | exact f_1 | exact hJ) (by rw [c280, c246]; rw [c281, c247]; first | exact f_2 | exact hK2) (by rw [c283, c248]; rw [c284, c249]; rw [c285, c250]; rw [c286, c251]; exact f_3) (by omega)
              · clear h217
                refine sf_sw1 sf_c5 (fun h288 => ?_) (fun h288 => ?_)
                · refine sf_aload rfl ?_
                  refine sf_aload rfl ?_
                  refine sf_iload rfl ?_
                  refine sf_iconst sf_c1 (fun z289 ez289 => ?_)
                  refine sf_iadd (by omega) (fun v290 ev290 => ?_)
                  refine sf_sldk (x := x4) (k := 1) (by omega) (by omega) (by omega) ?_
                  clear ev290 ez289
                  refine sf_aload rfl ?_
                  refine sf_iload rfl ?_
                  refine sf_iconst sf_c2 (fun z291 ez291 => ?_)
                  refine sf_iadd (by omega) (fun v292 ev292 => ?_)
                  refine sf_sldk (x := x4) (k := 2) (by omega) (by omega) (by omega) ?_
                  clear ev292 ez291
                  refine sf_aload rfl ?_
                  refine sf_iload rfl ?_
                  refine sf_iconst sf_c3 (fun z293 ez293 => ?_)
                  refine sf_iadd (by omega) (fun v294 ev294 => ?_)
                  refine sf_sldk (x := x4) (k := 3) (by omega) (by omega) (by omega) ?_
                  clear ev294 ez293
                  refine sf_aload rfl ?_
                  refine sf_callv5 rfl (by omega) (by omega) ?_
                  refine sc_W_rateFor_0_130 I_w  (fun v295 w296 Iw296 tw296 lv295 uv295 => ?_)
                  have c298 := sf_mf tw296 (p := 1) (j := 0) rfl
                  have c299 := sf_mf tw296 (p := 71) (j := 1) rfl
                  have c300 := sf_mf tw296 (p := 1) (j := 5) rfl
                  have c301 := sf_mf tw296 (p := 71) (j := 5) rfl
                  have c302 := sf_mf tw296 (p := 13) (j := 1) rfl
                  have c303 := sf_mf tw296 (p := 71) (j := 10) rfl
                  have c304 := sf_mf tw296 (p := 21) (j := 1) rfl
                  have c305 := sf_mf tw296 (p := 71) (j := 18) rfl
                  have c306 := sf_mf tw296 (p := 35) (j := 0) rfl
                  have c307 := sf_mf tw296 (p := 71) (j := 35) rfl
                  have c308 := sf_ma tw296 (p := 3) rfl
                  have c309 := sf_ma tw296 (p := 72) rfl
                  have c310 := sf_mg tw296 (p := 10) rfl
                  have c311 := sf_ma tw296 (p := 93) rfl
                  have c312 := sf_ma tw296 (p := 34) rfl
                  have c313 := sf_ma tw296 (p := 30) rfl
                  have c314 := sf_ma tw296 (p := 94) rfl
                  have c315 := sf_ma tw296 (p := 95) rfl
                  refine sf_istore (L' := [(0, .inl (.ref 100000)), (1, .inl (.ref 0)), (2, .inl (.ref 71)), (3, .inl (.ref 130)), (4, .inl (.int x4))]) rfl ?_
                  refine sf_aload rfl ?_
                  refine sf_aload rfl ?_
                  refine sf_iload rfl ?_
                  refine sf_iconst sf_c1 (fun z316 ez316 => ?_)
                  refine sf_iadd (by omega) (fun v317 ev317 => ?_)
                  refine sf_sldk (x := x4) (k := 1) (by omega) (by omega) (by omega) ?_
                  clear ev317 ez316
                  refine sf_aload rfl ?_
                  refine sf_iload rfl ?_
                  refine sf_iconst sf_c2 (fun z318 ez318 => ?_)
                  refine sf_iadd (by omega) (fun v319 ev319 => ?_)
                  refine sf_sldk (x := x4) (k := 2) (by omega) (by omega) (by omega) ?_
                  clear ev319 ez318
                  refine sf_aload rfl ?_
                  refine sf_iload rfl ?_
                  refine sf_iconst sf_c3 (fun z320 ez320 => ?_)
                  refine sf_iadd (by omega) (fun v321 ev321 => ?_)
                  refine sf_sldk (x := x4) (k := 3) (by omega) (by omega) (by omega) ?_
                  clear ev321 ez320
                  refine sf_callv4 rfl (by omega) (by omega) ?_
                  refine sf_rv Iw296 rfl ?_
                  refine sc_M_rateFor Iw296  (fun v322 w323 Iw323 tw323 lv322 uv322 => ?_)
                  have c325 := sf_mf tw323 (p := 1) (j := 0) rfl
                  have c326 := sf_mf tw323 (p := 71) (j := 1) rfl
                  have c327 := sf_mf tw323 (p := 1) (j := 5) rfl
                  have c328 := sf_mf tw323 (p := 71) (j := 5) rfl
                  have c329 := sf_mf tw323 (p := 13) (j := 1) rfl
                  have c330 := sf_mf tw323 (p := 71) (j := 10) rfl
                  have c331 := sf_mf tw323 (p := 21) (j := 1) rfl
                  have c332 := sf_mf tw323 (p := 71) (j := 18) rfl
                  have c333 := sf_mf tw323 (p := 35) (j := 0) rfl
                  have c334 := sf_mf tw323 (p := 71) (j := 35) rfl
                  have c335 := sf_ma tw323 (p := 3) rfl
                  have c336 := sf_ma tw323 (p := 72) rfl
                  have c337 := sf_mg tw323 (p := 10) rfl
                  have c338 := sf_ma tw323 (p := 93) rfl
                  have c339 := sf_mL tw323 (p := 130) rfl
                  have c340 := sf_ma tw323 (p := 34) rfl
                  have c341 := sf_ma tw323 (p := 30) rfl
                  have c342 := sf_ma tw323 (p := 94) rfl
                  have c343 := sf_ma tw323 (p := 95) rfl
                  refine sf_istore (L' := [(5, .inl (.int v295)), (0, .inl (.ref 100000)), (1, .inl (.ref 0)), (2, .inl (.ref 71)), (3, .inl (.ref 130)), (4, .inl (.int x4))]) rfl ?_
                  show kt_W_law_1421 N xs K _ _ _ _ _
                  refine sf_iinc (L' := [(6, .inl (.int v322)), (5, .inl (.int v295)), (0, .inl (.ref 100000)), (1, .inl (.ref 0)), (2, .inl (.ref 71)), (3, .inl (.ref 130))]) (x := x4) sf_c8 rfl rfl (by omega) (fun v344 ev344 => ?_)
                  refine sf_can (L' := [(0, .inl (.ref 100000)), (1, .inl (.ref 0)), (2, .inl (.ref 71)), (3, .inl (.ref 130)), (4, .inl (.int v344))]) rfl ?_
                  exact ih _ _ _ _ Iw323 (by omega) (by omega) (by omega) (by omega) (by rw [c325, c298]; rw [c326, c299]; rw [c327, c300]; rw [c328, c301]; rw [c329, c302]; rw [c330, c303]; rw [c331, c304]; rw [c332, c305]; rw [c333, c306]; rw [c334, c307]; omega) (by rw [c335, c308]; rw [c336, c309]; rw [c326, c299]; first | exact f_1 | exact hJ) (by rw [c337, c310]; rw [c338, c311]; first | exact f_2 | exact hK2) (by rw [c340, c312]; rw [c341, c313]; rw [c342, c314]; rw [c343, c315]; exact f_3) (by omega)
                · clear h288
                  refine sf_sw1 sf_c6 (fun h345 => ?_) (fun h345 => ?_)
                  · refine sf_aload rfl ?_
                    refine sf_aload rfl ?_
                    refine sf_iload rfl ?_
                    refine sf_iconst sf_c1 (fun z346 ez346 => ?_)
                    refine sf_iadd (by omega) (fun v347 ev347 => ?_)
                    refine sf_sldk (x := x4) (k := 1) (by omega) (by omega) (by omega) ?_
                    clear ev347 ez346
                    refine sf_aload rfl ?_
                    refine sf_iload rfl ?_
                    refine sf_iconst sf_c2 (fun z348 ez348 => ?_)
                    refine sf_iadd (by omega) (fun v349 ev349 => ?_)
                    refine sf_sldk (x := x4) (k := 2) (by omega) (by omega) (by omega) ?_
                    clear ev349 ez348
                    refine sf_aload rfl ?_
                    refine sf_iload rfl ?_
                    refine sf_iconst sf_c3 (fun z350 ez350 => ?_)
                    refine sf_iadd (by omega) (fun v351 ev351 => ?_)
                    refine sf_sldk (x := x4) (k := 3) (by omega) (by omega) (by omega) ?_
                    clear ev351 ez350
                    refine sf_aload rfl ?_
                    refine sf_iload rfl ?_
                    refine sf_iconst sf_c4 (fun z352 ez352 => ?_)
                    refine sf_iadd (by omega) (fun v353 ev353 => ?_)
                    refine sf_sldk (x := x4) (k := 4) (by omega) (by omega) (by omega) ?_
                    clear ev353 ez352
                    refine sf_aload rfl ?_
                    refine sf_iload rfl ?_
                    refine sf_iconst sf_c5 (fun z354 ez354 => ?_)
                    refine sf_iadd (by omega) (fun v355 ev355 => ?_)
                    refine sf_sldk (x := x4) (k := 5) (by omega) (by omega) (by omega) ?_
                    clear ev355 ez354
                    refine sf_aload rfl ?_
                    refine sf_iload rfl ?_
                    refine sf_iconst sf_c6 (fun z356 ez356 => ?_)
                    refine sf_iadd (by omega) (fun v357 ev357 => ?_)
                    refine sf_sldk (x := x4) (k := 6) (by omega) (by omega) (by omega) ?_
                    clear ev357 ez356
                    refine sf_aload rfl ?_
                    refine sf_callv8 rfl (by omega) (by omega) ?_
                    refine sc_W_quota_0_130 I_w  (fun v358 w359 Iw359 tw359 lv358 uv358 q360_0 => ?_)
                    have c361 := sf_mf tw359 (p := 1) (j := 0) rfl
                    have c362 := sf_mf tw359 (p := 71) (j := 1) rfl
                    have c363 := sf_mf tw359 (p := 1) (j := 5) rfl
                    have c364 := sf_mf tw359 (p := 71) (j := 5) rfl
                    have c365 := sf_mf tw359 (p := 13) (j := 1) rfl
                    have c366 := sf_mf tw359 (p := 71) (j := 10) rfl
                    have c367 := sf_mf tw359 (p := 71) (j := 18) rfl
                    have c368 := sf_mf tw359 (p := 35) (j := 0) rfl
                    have c369 := sf_mf tw359 (p := 71) (j := 35) rfl
                    have c370 := sf_ma tw359 (p := 3) rfl
                    have c371 := sf_ma tw359 (p := 72) rfl
                    have c372 := sf_mg tw359 (p := 10) rfl
                    have c373 := sf_ma tw359 (p := 93) rfl
                    have c374 := sf_ma tw359 (p := 34) rfl
                    have c375 := sf_ma tw359 (p := 30) rfl
                    have c376 := sf_ma tw359 (p := 94) rfl
                    have c377 := sf_ma tw359 (p := 95) rfl
                    refine sf_istore (L' := [(0, .inl (.ref 100000)), (1, .inl (.ref 0)), (2, .inl (.ref 71)), (3, .inl (.ref 130)), (4, .inl (.int x4))]) rfl ?_
                    refine sf_aload rfl ?_
                    refine sf_aload rfl ?_
                    refine sf_iload rfl ?_
                    refine sf_iconst sf_c1 (fun z378 ez378 => ?_)
                    refine sf_iadd (by omega) (fun v379 ev379 => ?_)
                    refine sf_sldk (x := x4) (k := 1) (by omega) (by omega) (by omega) ?_
                    clear ev379 ez378
                    refine sf_aload rfl ?_
                    refine sf_iload rfl ?_
                    refine sf_iconst sf_c2 (fun z380 ez380 => ?_)
                    refine sf_iadd (by omega) (fun v381 ev381 => ?_)
                    refine sf_sldk (x := x4) (k := 2) (by omega) (by omega) (by omega) ?_
                    clear ev381 ez380
                    refine sf_aload rfl ?_
                    refine sf_iload rfl ?_
                    refine sf_iconst sf_c3 (fun z382 ez382 => ?_)
                    refine sf_iadd (by omega) (fun v383 ev383 => ?_)
                    refine sf_sldk (x := x4) (k := 3) (by omega) (by omega) (by omega) ?_
                    clear ev383 ez382
                    refine sf_aload rfl ?_
                    refine sf_iload rfl ?_
                    refine sf_iconst sf_c4 (fun z384 ez384 => ?_)
                    refine sf_iadd (by omega) (fun v385 ev385 => ?_)
                    refine sf_sldk (x := x4) (k := 4) (by omega) (by omega) (by omega) ?_
                    clear ev385 ez384
                    refine sf_aload rfl ?_
                    refine sf_iload rfl ?_
                    refine sf_iconst sf_c5 (fun z386 ez386 => ?_)
                    refine sf_iadd (by omega) (fun v387 ev387 => ?_)
                    refine sf_sldk (x := x4) (k := 5) (by omega) (by omega) (by omega) ?_
                    clear ev387 ez386
                    refine sf_aload rfl ?_
                    refine sf_iload rfl ?_
                    refine sf_iconst sf_c6 (fun z388 ez388 => ?_)
                    refine sf_iadd (by omega) (fun v389 ev389 => ?_)
                    refine sf_sldk (x := x4) (k := 6) (by omega) (by omega) (by omega) ?_
                    clear ev389 ez388
                    refine sf_callv7 rfl (by omega) (by omega) ?_
                    refine sf_rv Iw359 rfl ?_
                    refine sc_M_quota Iw359  (fun v390 w391 Iw391 tw391 lv390 uv390 q392_0 => ?_)
                    rw [c362] at q392_0
                    rw [c367] at q392_0
                    have c393 := sf_mf tw391 (p := 1) (j := 0) rfl
                    have c394 := sf_mf tw391 (p := 71) (j := 1) rfl
                    have c395 := sf_mf tw391 (p := 1) (j := 5) rfl
                    have c396 := sf_mf tw391 (p := 71) (j := 5) rfl
                    have c397 := sf_mf tw391 (p := 13) (j := 1) rfl
                    have c398 := sf_mf tw391 (p := 71) (j := 10) rfl
                    have c399 := sf_mf tw391 (p := 21) (j := 1) rfl
                    have c400 := sf_mf tw391 (p := 35) (j := 0) rfl
                    have c401 := sf_mf tw391 (p := 71) (j := 35) rfl
                    have c402 := sf_ma tw391 (p := 3) rfl
                    have c403 := sf_ma tw391 (p := 72) rfl
                    have c404 := sf_mg tw391 (p := 10) rfl
                    have c405 := sf_ma tw391 (p := 93) rfl
                    have c406 := sf_mL tw391 (p := 130) rfl
                    have c407 := sf_ma tw391 (p := 34) rfl
                    have c408 := sf_ma tw391 (p := 30) rfl
                    have c409 := sf_ma tw391 (p := 94) rfl
                    have c410 := sf_ma tw391 (p := 95) rfl
                    refine sf_istore (L' := [(5, .inl (.int v358)), (0, .inl (.ref 100000)), (1, .inl (.ref 0)), (2, .inl (.ref 71)), (3, .inl (.ref 130)), (4, .inl (.int x4))]) rfl ?_
                    show kt_W_law_1421 N xs K _ _ _ _ _
                    refine sf_iinc (L' := [(6, .inl (.int v390)), (5, .inl (.int v358)), (0, .inl (.ref 100000)), (1, .inl (.ref 0)), (2, .inl (.ref 71)), (3, .inl (.ref 130))]) (x := x4) sf_c8 rfl rfl (by omega) (fun v411 ev411 => ?_)
                    refine sf_can (L' := [(0, .inl (.ref 100000)), (1, .inl (.ref 0)), (2, .inl (.ref 71)), (3, .inl (.ref 130)), (4, .inl (.int v411))]) rfl ?_
                    exact ih _ _ _ _ Iw391 (by omega) (by omega) (by omega) (by omega) (by rw [c393, c361]; rw [c394, c362]; rw [c395, c363]; rw [c396, c364]; rw [c397, c365]; rw [c398, c366]; rw [c399]; rw [c400, c368]; rw [c401, c369]; omega) (by rw [c402, c370]; rw [c403, c371]; rw [c394, c362]; first | exact f_1 | exact hJ) (by rw [c404, c372]; rw [c405, c373]; first | exact f_2 | exact hK2) (by rw [c407, c374]; rw [c408, c375]; rw [c409, c376]; rw [c410, c377]; exact f_3) (by omega)
                  · clear h345
                    refine sf_sw1 sf_c7 (fun h412 => ?_) (fun h412 => ?_)
                    · refine sf_aload rfl ?_
                      refine sf_aload rfl ?_
                      refine sf_iload rfl ?_
                      refine sf_iconst sf_c1 (fun z413 ez413 => ?_)
                      refine sf_iadd (by omega) (fun v414 ev414 => ?_)
                      refine sf_sldk (x := x4) (k := 1) (by omega) (by omega) (by omega) ?_
                      clear ev414 ez413
                      refine sf_aload rfl ?_
                      refine sf_callv3 rfl (by omega) (by omega) ?_
                      refine sc_W_quotaLeft_0_130 I_w  (fun v415 w416 Iw416 tw416 lv415 uv415 => ?_)
                      have c418 := sf_mf tw416 (p := 1) (j := 0) rfl
                      have c419 := sf_mf tw416 (p := 71) (j := 1) rfl
                      have c420 := sf_mf tw416 (p := 1) (j := 5) rfl
                      have c421 := sf_mf tw416 (p := 71) (j := 5) rfl
                      have c422 := sf_mf tw416 (p := 13) (j := 1) rfl
                      have c423 := sf_mf tw416 (p := 71) (j := 10) rfl
                      have c424 := sf_mf tw416 (p := 21) (j := 1) rfl
                      have c425 := sf_mf tw416 (p := 71) (j := 18) rfl
                      have c426 := sf_mf tw416 (p := 35) (j := 0) rfl
                      have c427 := sf_mf tw416 (p := 71) (j := 35) rfl
                      have c428 := sf_ma tw416 (p := 3) rfl
                      have c429 := sf_ma tw416 (p := 72) rfl
                      have c430 := sf_mg tw416 (p := 10) rfl
                      have c431 := sf_ma tw416 (p := 93) rfl
                      have c432 := sf_ma tw416 (p := 34) rfl
                      have c433 := sf_ma tw416 (p := 30) rfl
                      have c434 := sf_ma tw416 (p := 94) rfl
                      have c435 := sf_ma tw416 (p := 95) rfl
                      refine sf_istore (L' := [(0, .inl (.ref 100000)), (1, .inl (.ref 0)), (2, .inl (.ref 71)), (3, .inl (.ref 130)), (4, .inl (.int x4))]) rfl ?_
                      refine sf_aload rfl ?_
                      refine sf_aload rfl ?_
                      refine sf_iload rfl ?_
                      refine sf_iconst sf_c1 (fun z436 ez436 => ?_)
                      refine sf_iadd (by omega) (fun v437 ev437 => ?_)
                      refine sf_sldk (x := x4) (k := 1) (by omega) (by omega) (by omega) ?_
                      clear ev437 ez436
                      refine sf_callv2 rfl (by omega) (by omega) ?_
                      refine sf_rv Iw416 rfl ?_
                      refine sc_M_quotaLeft Iw416  (fun v438 w439 Iw439 tw439 => ?_)
                      have c441 := sf_mf tw439 (p := 1) (j := 0) rfl
                      have c442 := sf_mf tw439 (p := 71) (j := 1) rfl
                      have c443 := sf_mf tw439 (p := 1) (j := 5) rfl
                      have c444 := sf_mf tw439 (p := 71) (j := 5) rfl
                      have c445 := sf_mf tw439 (p := 13) (j := 1) rfl
                      have c446 := sf_mf tw439 (p := 71) (j := 10) rfl
                      have c447 := sf_mf tw439 (p := 21) (j := 1) rfl
                      have c448 := sf_mf tw439 (p := 71) (j := 18) rfl
                      have c449 := sf_mf tw439 (p := 35) (j := 0) rfl
                      have c450 := sf_mf tw439 (p := 71) (j := 35) rfl
                      have c451 := sf_ma tw439 (p := 3) rfl
                      have c452 := sf_ma tw439 (p := 72) rfl
                      have c453 := sf_mg tw439 (p := 10) rfl
                      have c454 := sf_ma tw439 (p := 93) rfl
                      have c455 := sf_mL tw439 (p := 130) rfl
                      have c456 := sf_ma tw439 (p := 34) rfl
                      have c457 := sf_ma tw439 (p := 30) rfl
                      have c458 := sf_ma tw439 (p := 94) rfl
                      have c459 := sf_ma tw439 (p := 95) rfl
                      refine sf_istore (L' := [(5, .inl (.int v415)), (0, .inl (.ref 100000)), (1, .inl (.ref 0)), (2, .inl (.ref 71)), (3, .inl (.ref 130)), (4, .inl (.int x4))]) rfl ?_
                      show kt_W_law_1421 N xs K _ _ _ _ _
                      refine sf_iinc (L' := [(6, .inl (.int v438)), (5, .inl (.int v415)), (0, .inl (.ref 100000)), (1, .inl (.ref 0)), (2, .inl (.ref 71)), (3, .inl (.ref 130))]) (x := x4) sf_c8 rfl rfl (by omega) (fun v460 ev460 => ?_)
                      refine sf_can (L' := [(0, .inl (.ref 100000)), (1, .inl (.ref 0)), (2, .inl (.ref 71)), (3, .inl (.ref 130)), (4, .inl (.int v460))]) rfl ?_
                      exact ih _ _ _ _ Iw439 (by omega) (by omega) (by omega) (by omega) (by rw [c441, c418]; rw [c442, c419]; rw [c443, c420]; rw [c444, c421]; rw [c445, c422]; rw [c446, c423]; rw [c447, c424]; rw [c448, c425]; rw [c449, c426]; rw [c450, c427]; omega) (by rw [c451, c428]; rw [c452, c429]; rw [c442, c419]; first | exact f_1 | exact hJ) (by rw [c453, c430]; rw [c454, c431]; first | exact f_2 | exact hK2) (by rw [c456, c432]; rw [c457, c433]; rw [c458, c434]; rw [c459, c435]; exact f_3) (by omega)
                    · clear h412
                      refine sf_sw1 sf_c8 (fun h461 => ?_) (fun h461 => ?_)
                      · refine sf_aload rfl ?_
                        refine sf_aload rfl ?_
                        refine sf_iload rfl ?_
                        refine sf_iconst sf_c1 (fun z462 ez462 => ?_)
                        refine sf_iadd (by omega) (fun v463 ev463 => ?_)
                        refine sf_sldk (x := x4) (k := 1) (by omega) (by omega) (by omega) ?_
                        clear ev463 ez462
                        refine sf_aload rfl ?_
                        refine sf_iload rfl ?_
                        refine sf_iconst sf_c2 (fun z464 ez464 => ?_)
                        refine sf_iadd (by omega) (fun v465 ev465 => ?_)
                        refine sf_sldk (x := x4) (k := 2) (by omega) (by omega) (by omega) ?_
                        clear ev465 ez464
                        refine sf_aload rfl ?_
                        refine sf_iload rfl ?_
                        refine sf_iconst sf_c3 (fun z466 ez466 => ?_)
                        refine sf_iadd (by omega) (fun v467 ev467 => ?_)
                        refine sf_sldk (x := x4) (k := 3) (by omega) (by omega) (by omega) ?_
                        clear ev467 ez466
                        refine sf_aload rfl ?_
                        refine sf_iload rfl ?_
                        refine sf_iconst sf_c4 (fun z468 ez468 => ?_)
                        refine sf_iadd (by omega) (fun v469 ev469 => ?_)
                        refine sf_sldk (x := x4) (k := 4) (by omega) (by omega) (by omega) ?_
                        clear ev469 ez468
                        refine sf_aload rfl ?_
                        refine sf_callv6 rfl (by omega) (by omega) ?_
                        refine sc_W_part_0_130 I_w  (fun v470 w471 Iw471 tw471 lv470 uv470 q472_0 q472_1 => ?_)
                        have c473 := sf_mf tw471 (p := 1) (j := 0) rfl
                        have c474 := sf_mf tw471 (p := 71) (j := 1) rfl
                        have c475 := sf_mf tw471 (p := 1) (j := 5) rfl
                        have c476 := sf_mf tw471 (p := 71) (j := 5) rfl
                        have c477 := sf_mf tw471 (p := 13) (j := 1) rfl
                        have c478 := sf_mf tw471 (p := 71) (j := 10) rfl
                        have c479 := sf_mf tw471 (p := 21) (j := 1) rfl
                        have c480 := sf_mf tw471 (p := 71) (j := 18) rfl
                        have c481 := sf_mf tw471 (p := 35) (j := 0) rfl
                        have c482 := sf_mf tw471 (p := 71) (j := 35) rfl
                        have c483 := sf_ma tw471 (p := 3) rfl
                        have c484 := sf_ma tw471 (p := 72) rfl
                        have c485 := sf_mg tw471 (p := 10) rfl
                        have c486 := sf_ma tw471 (p := 93) rfl
                        have c487 := sf_ma tw471 (p := 94) rfl
                        have c488 := sf_ma tw471 (p := 95) rfl
                        have F1 := q472_0
                        have F2 := q472_1
                        clear q472_0 q472_1
                        refine sf_istore (L' := [(0, .inl (.ref 100000)), (1, .inl (.ref 0)), (2, .inl (.ref 71)), (3, .inl (.ref 130)), (4, .inl (.int x4))]) rfl ?_
                        refine sf_aload rfl ?_
                        refine sf_aload rfl ?_
                        refine sf_iload rfl ?_
                        refine sf_iconst sf_c1 (fun z489 ez489 => ?_)
                        refine sf_iadd (by omega) (fun v490 ev490 => ?_)
                        refine sf_sldk (x := x4) (k := 1) (by omega) (by omega) (by omega) ?_
                        clear ev490 ez489
                        refine sf_aload rfl ?_
                        refine sf_iload rfl ?_
                        refine sf_iconst sf_c2 (fun z491 ez491 => ?_)
                        refine sf_iadd (by omega) (fun v492 ev492 => ?_)
                        refine sf_sldk (x := x4) (k := 2) (by omega) (by omega) (by omega) ?_
                        clear ev492 ez491
                        refine sf_aload rfl ?_
                        refine sf_iload rfl ?_
                        refine sf_iconst sf_c3 (fun z493 ez493 => ?_)
                        refine sf_iadd (by omega) (fun v494 ev494 => ?_)
                        refine sf_sldk (x := x4) (k := 3) (by omega) (by omega) (by omega) ?_
                        clear ev494 ez493
                        refine sf_aload rfl ?_
                        refine sf_iload rfl ?_
                        refine sf_iconst sf_c4 (fun z495 ez495 => ?_)
                        refine sf_iadd (by omega) (fun v496 ev496 => ?_)
                        refine sf_sldk (x := x4) (k := 4) (by omega) (by omega) (by omega) ?_
                        clear ev496 ez495
                        refine sf_callv5 rfl (by omega) (by omega) ?_
                        refine sf_rv Iw471 rfl ?_
                        refine sc_M_part Iw471  (fun v497 w498 Iw498 tw498 lv497 uv497 q499_0 q499_1 => ?_)
                        rw [c487] at q499_0
                        rw [c488] at q499_0
                        rw [c487] at q499_1
                        rw [c488] at q499_1
                        have c500 := sf_mf tw498 (p := 1) (j := 0) rfl
                        have c501 := sf_mf tw498 (p := 71) (j := 1) rfl
                        have c502 := sf_mf tw498 (p := 1) (j := 5) rfl
                        have c503 := sf_mf tw498 (p := 71) (j := 5) rfl
                        have c504 := sf_mf tw498 (p := 13) (j := 1) rfl
                        have c505 := sf_mf tw498 (p := 71) (j := 10) rfl
                        have c506 := sf_mf tw498 (p := 21) (j := 1) rfl
                        have c507 := sf_mf tw498 (p := 71) (j := 18) rfl
                        have c508 := sf_mf tw498 (p := 35) (j := 0) rfl
                        have c509 := sf_mf tw498 (p := 71) (j := 35) rfl
                        have c510 := sf_ma tw498 (p := 3) rfl
                        have c511 := sf_ma tw498 (p := 72) rfl
                        have c512 := sf_mg tw498 (p := 10) rfl
                        have c513 := sf_ma tw498 (p := 93) rfl
                        have c514 := sf_mL tw498 (p := 130) rfl
                        have c515 := sf_ma tw498 (p := 34) rfl
                        have c516 := sf_ma tw498 (p := 30) rfl
                        obtain ⟨t9, ht9, G1⟩ := q499_0
                        have G2 := q499_1
                        clear q499_1
                        have hT : (0 ≤ (xs (x4.toInt.toNat + 1)).toInt ∧ (xs (x4.toInt.toNat + 1)).toInt ≤ 15 ∧ 0 ≤ (xs (x4.toInt.toNat + 2)).toInt ∧ (xs (x4.toInt.toNat + 2)).toInt ≤ 15 ∧ 0 ≤ (xs (x4.toInt.toNat + 3)).toInt ∧ (xs (x4.toInt.toNat + 3)).toInt ≤ 1000000 ∧ 0 ≤ (xs (x4.toInt.toNat + 4)).toInt ∧ (xs (x4.toInt.toNat + 4)).toInt ≤ 7) → (t9 = 1 ↔ ((xs (x4.toInt.toNat + 1)).toInt = (xs (x4.toInt.toNat + 2)).toInt ∨ sp_i (sb_t (sf_a w 34 (xs (x4.toInt.toNat + 2)).toInt.toNat) (xs (x4.toInt.toNat + 1)).toInt.toNat) = 1)) := fun h9 => sq_Zt f_3 (by omega) (by omega) (ht9 h9)
                        have hpe : 0 ≤ (xs (x4.toInt.toNat + 1)).toInt → (xs (x4.toInt.toNat + 1)).toInt ≤ 15 → (sf_a w 30 (xs (x4.toInt.toNat + 1)).toInt.toNat).toInt = (sf_a w 94 (xs (x4.toInt.toNat + 1)).toInt.toNat).toInt := fun h1 h2 => by rw [f_3.1 _ (by omega)]
                        clear ht9
                        have hrc : v470.toInt = (sf_f w498 71 0).toInt := by omega
                        have hZ := sq_ZS f_3 F2 G2 hrc (fun g hg => (sf_arr I_w (p := 94) rfl).2.1 g hg) (fun k hk => ((sf_arr I_w (p := 95) rfl).2.1 k hk).2) (fun h9 => by omega)
                        clear F2 G2
                        refine sf_istore (L' := [(5, .inl (.int v470)), (0, .inl (.ref 100000)), (1, .inl (.ref 0)), (2, .inl (.ref 71)), (3, .inl (.ref 130)), (4, .inl (.int x4))]) rfl ?_
                        refine sf_aload rfl ?_
                        refine sf_callv1 rfl (by omega) (by omega) ?_
                        refine sf_rv Iw498 rfl ?_
                        refine sf_sp (L := [(0, .inl (.ref 71))]) rfl rfl ?_
                        refine sf_aload rfl ?_
                        refine sf_geti Iw498 rfl rfl (fun v517 lv517 uv517 ev517 => ?_)
                        refine sf_ireturn rfl rfl ?_
                        refine sf_iload rfl ?_
                        refine sf_f2_eq (fun h518 => ?_) (fun h518 => ?_)
                        · refine sf_iload rfl ?_
                          refine sf_f1_eq (fun h519 => ?_) (fun h519 => ?_)
                          · refine sf_aload rfl ?_
                            refine sf_iconst sf_c0 (fun z520 ez520 => ?_)
                            refine sf_lald Iw498 rfl (by omega) (fun v521 ev521 => ?_)
                            rw [c514] at ev521
                            rw [show z520.toInt.toNat = 0 by omega] at ev521
                            refine sf_iload rfl ?_
                            refine sf_i2l (fun v522 ev522 => ?_)
                            refine sf_fl_eq (fun h523 => ?_) (fun h523 => ?_)
                            · show kt_W_law_1421 N xs K _ _ _ _ _
                              refine sf_iinc (L' := [(6, .inl (.int v497)), (5, .inl (.int v470)), (0, .inl (.ref 100000)), (1, .inl (.ref 0)), (2, .inl (.ref 71)), (3, .inl (.ref 130))]) (x := x4) sf_c8 rfl rfl (by omega) (fun v524 ev524 => ?_)
                              refine sf_can (L' := [(0, .inl (.ref 100000)), (1, .inl (.ref 0)), (2, .inl (.ref 71)), (3, .inl (.ref 130)), (4, .inl (.int v524))]) rfl ?_
                              exact ih _ _ _ _ Iw498 (by omega) (by omega) (by omega) (by omega) (by rw [c500, c473]; rw [c501, c474]; rw [c502, c475]; rw [c503, c476]; rw [c504, c477]; rw [c505, c478]; rw [c506, c479]; rw [c507, c480]; rw [c508, c481]; rw [c509, c482]; omega) (by rw [c510, c483]; rw [c511, c484]; rw [c501, c474]; first | exact f_1 | exact hJ) (by rw [c512, c485]; rw [c513, c486]; first | exact f_2 | exact hK2) (by rw [c515]; rw [c516]; exact hZ) (by omega)
                            · refine sf_iconst sf_c0 (fun z525 ez525 => ?_)
                              exact sf_lend (by omega) (by omega) (by omega)
                          · show kt_W_law_1421 N xs K _ _ _ _ _
                            refine sf_iinc (L' := [(6, .inl (.int v497)), (5, .inl (.int v470)), (0, .inl (.ref 100000)), (1, .inl (.ref 0)), (2, .inl (.ref 71)), (3, .inl (.ref 130))]) (x := x4) sf_c8 rfl rfl (by omega) (fun v526 ev526 => ?_)
                            refine sf_can (L' := [(0, .inl (.ref 100000)), (1, .inl (.ref 0)), (2, .inl (.ref 71)), (3, .inl (.ref 130)), (4, .inl (.int v526))]) rfl ?_
                            exact ih _ _ _ _ Iw498 (by omega) (by omega) (by omega) (by omega) (by rw [c500, c473]; rw [c501, c474]; rw [c502, c475]; rw [c503, c476]; rw [c504, c477]; rw [c505, c478]; rw [c506, c479]; rw [c507, c480]; rw [c508, c481]; rw [c509, c482]; omega) (by rw [c510, c483]; rw [c511, c484]; rw [c501, c474]; first | exact f_1 | exact hJ) (by rw [c512, c485]; rw [c513, c486]; first | exact f_2 | exact hK2) (by rw [c515]; rw [c516]; exact hZ) (by omega)
                        · refine sf_iconst sf_c0 (fun z527 ez527 => ?_)
                          exact sf_lend (by omega) (by omega) (by omega)
                      · clear h461
                        refine sf_sw1 sf_c9 (fun h528 => ?_) (fun h528 => ?_)
                        · refine sf_aload rfl ?_
                          refine sf_aload rfl ?_
                          refine sf_iload rfl ?_
                          refine sf_iconst sf_c1 (fun z529 ez529 => ?_)
                          refine sf_iadd (by omega) (fun v530 ev530 => ?_)
                          refine sf_sldk (x := x4) (k := 1) (by omega) (by omega) (by omega) ?_
                          clear ev530 ez529
                          refine sf_aload rfl ?_
                          refine sf_iload rfl ?_
                          refine sf_iconst sf_c2 (fun z531 ez531 => ?_)
                          refine sf_iadd (by omega) (fun v532 ev532 => ?_)
                          refine sf_sldk (x := x4) (k := 2) (by omega) (by omega) (by omega) ?_
                          clear ev532 ez531
                          refine sf_callv3 rfl (by omega) (by omega) ?_
                          refine sc_W_zone_0 I_w  (fun v533 w534 Iw534 tw534 lv533 uv533 q535_0 => ?_)
                          have c536 := sf_mf tw534 (p := 1) (j := 0) rfl
                          have c537 := sf_mf tw534 (p := 71) (j := 1) rfl
                          have c538 := sf_mf tw534 (p := 1) (j := 5) rfl
                          have c539 := sf_mf tw534 (p := 71) (j := 5) rfl
                          have c540 := sf_mf tw534 (p := 13) (j := 1) rfl
                          have c541 := sf_mf tw534 (p := 71) (j := 10) rfl
                          have c542 := sf_mf tw534 (p := 21) (j := 1) rfl
                          have c543 := sf_mf tw534 (p := 71) (j := 18) rfl
                          have c544 := sf_mf tw534 (p := 35) (j := 0) rfl
                          have c545 := sf_mf tw534 (p := 71) (j := 35) rfl
                          have c546 := sf_ma tw534 (p := 3) rfl
                          have c547 := sf_ma tw534 (p := 72) rfl
                          have c548 := sf_mg tw534 (p := 10) rfl
                          have c549 := sf_ma tw534 (p := 93) rfl
                          have c550 := sf_mL tw534 (p := 130) rfl
                          have c551 := sf_ma tw534 (p := 34) rfl
                          have c552 := sf_ma tw534 (p := 30) rfl
                          have c553 := sf_ma tw534 (p := 94) rfl
                          have c554 := sf_ma tw534 (p := 95) rfl
                          refine sf_istore (L' := [(0, .inl (.ref 100000)), (1, .inl (.ref 0)), (2, .inl (.ref 71)), (3, .inl (.ref 130)), (4, .inl (.int x4))]) rfl ?_
                          refine sf_aload rfl ?_
                          refine sf_aload rfl ?_
                          refine sf_iload rfl ?_
                          refine sf_iconst sf_c1 (fun z555 ez555 => ?_)
                          refine sf_iadd (by omega) (fun v556 ev556 => ?_)
                          refine sf_sldk (x := x4) (k := 1) (by omega) (by omega) (by omega) ?_
                          clear ev556 ez555
                          refine sf_aload rfl ?_
                          refine sf_iload rfl ?_
                          refine sf_iconst sf_c2 (fun z557 ez557 => ?_)
                          refine sf_iadd (by omega) (fun v558 ev558 => ?_)
                          refine sf_sldk (x := x4) (k := 2) (by omega) (by omega) (by omega) ?_
                          clear ev558 ez557
                          refine sf_callv3 rfl (by omega) (by omega) ?_
                          refine sf_rv Iw534 rfl ?_
                          refine sc_M_zone Iw534  (fun w559 Iw559 tw559 q560_0 => ?_)
                          have c561 := sf_mf tw559 (p := 1) (j := 0) rfl
                          have c562 := sf_mf tw559 (p := 71) (j := 1) rfl
                          have c563 := sf_mf tw559 (p := 1) (j := 5) rfl
                          have c564 := sf_mf tw559 (p := 71) (j := 5) rfl
                          have c565 := sf_mf tw559 (p := 13) (j := 1) rfl
                          have c566 := sf_mf tw559 (p := 71) (j := 10) rfl
                          have c567 := sf_mf tw559 (p := 21) (j := 1) rfl
                          have c568 := sf_mf tw559 (p := 71) (j := 18) rfl
                          have c569 := sf_mf tw559 (p := 35) (j := 0) rfl
                          have c570 := sf_mf tw559 (p := 71) (j := 35) rfl
                          have c571 := sf_ma tw559 (p := 3) rfl
                          have c572 := sf_ma tw559 (p := 72) rfl
                          have c573 := sf_mg tw559 (p := 10) rfl
                          have c574 := sf_ma tw559 (p := 93) rfl
                          have c575 := sf_mL tw559 (p := 130) rfl
                          have c576 := sf_ma tw559 (p := 34) rfl
                          have c577 := sf_ma tw559 (p := 30) rfl
                          have c578 := sf_ma tw559 (p := 94) rfl
                          have c579 := sf_ma tw559 (p := 95) rfl
                          show kt_W_law_1421 N xs K _ _ _ _ _
                          refine sf_iinc (L' := [(5, .inl (.int v533)), (0, .inl (.ref 100000)), (1, .inl (.ref 0)), (2, .inl (.ref 71)), (3, .inl (.ref 130))]) (x := x4) sf_c8 rfl rfl (by omega) (fun v580 ev580 => ?_)
                          refine sf_can (L' := [(0, .inl (.ref 100000)), (1, .inl (.ref 0)), (2, .inl (.ref 71)), (3, .inl (.ref 130)), (4, .inl (.int v580))]) rfl ?_
                          exact ih _ _ _ _ Iw559 (by omega) (by omega) (by omega) (by omega) (by rw [c561, c536]; rw [c562, c537]; rw [c563, c538]; rw [c564, c539]; rw [c565, c540]; rw [c566, c541]; rw [c567, c542]; rw [c568, c543]; rw [c569, c544]; rw [c570, c545]; omega) (by rw [c571, c546]; rw [c572, c547]; rw [c562, c537]; first | exact f_1 | exact hJ) (by rw [c573, c548]; rw [c574, c549]; first | exact f_2 | exact hK2) (by rw [c576, c551]; rw [c577, c552]; rw [c578, c553]; rw [c579, c554]; exact f_3) (by omega)
                        · clear h528
                          refine sf_sw1 sf_c10 (fun h581 => ?_) (fun h581 => ?_)
                          · refine sf_aload rfl ?_
                            refine sf_aload rfl ?_
                            refine sf_iload rfl ?_
                            refine sf_iconst sf_c1 (fun z582 ez582 => ?_)
                            refine sf_iadd (by omega) (fun v583 ev583 => ?_)
                            refine sf_sldk (x := x4) (k := 1) (by omega) (by omega) (by omega) ?_
                            clear ev583 ez582
                            refine sf_aload rfl ?_
                            refine sf_iload rfl ?_
                            refine sf_iconst sf_c2 (fun z584 ez584 => ?_)
                            refine sf_iadd (by omega) (fun v585 ev585 => ?_)
                            refine sf_sldk (x := x4) (k := 2) (by omega) (by omega) (by omega) ?_
                            clear ev585 ez584
                            refine sf_aload rfl ?_
                            refine sf_iload rfl ?_
                            refine sf_iconst sf_c3 (fun z586 ez586 => ?_)
                            refine sf_iadd (by omega) (fun v587 ev587 => ?_)
                            refine sf_sldk (x := x4) (k := 3) (by omega) (by omega) (by omega) ?_
                            clear ev587 ez586
                            refine sf_callv4 rfl (by omega) (by omega) ?_
                            refine sc_W_rule_0 I_w  (fun v588 w589 Iw589 tw589 lv588 uv588 q590_0 => ?_)
                            have c591 := sf_mf tw589 (p := 1) (j := 0) rfl
                            have c592 := sf_mf tw589 (p := 71) (j := 1) rfl
                            have c593 := sf_mf tw589 (p := 1) (j := 5) rfl
                            have c594 := sf_mf tw589 (p := 71) (j := 5) rfl
                            have c595 := sf_mf tw589 (p := 13) (j := 1) rfl
                            have c596 := sf_mf tw589 (p := 71) (j := 10) rfl
                            have c597 := sf_mf tw589 (p := 21) (j := 1) rfl
                            have c598 := sf_mf tw589 (p := 71) (j := 18) rfl
                            have c599 := sf_mf tw589 (p := 35) (j := 0) rfl
                            have c600 := sf_mf tw589 (p := 71) (j := 35) rfl
                            have c601 := sf_ma tw589 (p := 3) rfl
                            have c602 := sf_ma tw589 (p := 72) rfl
                            have c603 := sf_mg tw589 (p := 10) rfl
                            have c604 := sf_ma tw589 (p := 93) rfl
                            have c605 := sf_mL tw589 (p := 130) rfl
                            have c606 := sf_ma tw589 (p := 34) rfl
                            have c607 := sf_ma tw589 (p := 30) rfl
                            have c608 := sf_ma tw589 (p := 94) rfl
                            have c609 := sf_ma tw589 (p := 95) rfl
                            refine sf_istore (L' := [(0, .inl (.ref 100000)), (1, .inl (.ref 0)), (2, .inl (.ref 71)), (3, .inl (.ref 130)), (4, .inl (.int x4))]) rfl ?_
                            refine sf_aload rfl ?_
                            refine sf_aload rfl ?_
                            refine sf_iload rfl ?_
                            refine sf_iconst sf_c1 (fun z610 ez610 => ?_)
                            refine sf_iadd (by omega) (fun v611 ev611 => ?_)
                            refine sf_sldk (x := x4) (k := 1) (by omega) (by omega) (by omega) ?_
                            clear ev611 ez610
                            refine sf_aload rfl ?_
                            refine sf_iload rfl ?_
                            refine sf_iconst sf_c2 (fun z612 ez612 => ?_)
                            refine sf_iadd (by omega) (fun v613 ev613 => ?_)
                            refine sf_sldk (x := x4) (k := 2) (by omega) (by omega) (by omega) ?_
                            clear ev613 ez612
                            refine sf_aload rfl ?_
                            refine sf_iload rfl ?_
                            refine sf_iconst sf_c3 (fun z614 ez614 => ?_)
                            refine sf_iadd (by omega) (fun v615 ev615 => ?_)
                            refine sf_sldk (x := x4) (k := 3) (by omega) (by omega) (by omega) ?_
                            clear ev615 ez614
                            refine sf_callv4 rfl (by omega) (by omega) ?_
                            refine sf_rv Iw589 rfl ?_
                            refine sc_M_rule Iw589  (fun w616 Iw616 tw616 q617_0 => ?_)
                            rw [c592] at q617_0
                            have c618 := sf_mf tw616 (p := 1) (j := 0) rfl
                            have c619 := sf_mf tw616 (p := 71) (j := 1) rfl
                            have c620 := sf_mf tw616 (p := 1) (j := 5) rfl
                            have c621 := sf_mf tw616 (p := 71) (j := 5) rfl
                            have c622 := sf_mf tw616 (p := 13) (j := 1) rfl
                            have c623 := sf_mf tw616 (p := 71) (j := 10) rfl
                            have c624 := sf_mf tw616 (p := 21) (j := 1) rfl
                            have c625 := sf_mf tw616 (p := 71) (j := 18) rfl
                            have c626 := sf_mf tw616 (p := 35) (j := 0) rfl
                            have c627 := sf_mf tw616 (p := 71) (j := 35) rfl
                            have c628 := sf_ma tw616 (p := 3) rfl
                            have c629 := sf_ma tw616 (p := 72) rfl
                            have c630 := sf_mg tw616 (p := 10) rfl
                            have c631 := sf_ma tw616 (p := 93) rfl
                            have c632 := sf_mL tw616 (p := 130) rfl
                            have c633 := sf_ma tw616 (p := 34) rfl
                            have c634 := sf_ma tw616 (p := 30) rfl
                            have c635 := sf_ma tw616 (p := 94) rfl
                            have c636 := sf_ma tw616 (p := 95) rfl
                            show kt_W_law_1421 N xs K _ _ _ _ _
                            refine sf_iinc (L' := [(5, .inl (.int v588)), (0, .inl (.ref 100000)), (1, .inl (.ref 0)), (2, .inl (.ref 71)), (3, .inl (.ref 130))]) (x := x4) sf_c8 rfl rfl (by omega) (fun v637 ev637 => ?_)
                            refine sf_can (L' := [(0, .inl (.ref 100000)), (1, .inl (.ref 0)), (2, .inl (.ref 71)), (3, .inl (.ref 130)), (4, .inl (.int v637))]) rfl ?_
                            exact ih _ _ _ _ Iw616 (by omega) (by omega) (by omega) (by omega) (by rw [c618, c591]; rw [c619, c592]; rw [c620, c593]; rw [c621, c594]; rw [c622, c595]; rw [c623, c596]; rw [c624, c597]; rw [c625, c598]; rw [c626, c599]; rw [c627, c600]; omega) (by rw [c628, c601]; rw [c629, c602]; rw [c619, c592]; first | exact f_1 | exact hJ) (by rw [c630, c603]; rw [c631, c604]; first | exact f_2 | exact hK2) (by rw [c633, c606]; rw [c634, c607]; rw [c635, c608]; rw [c636, c609]; exact f_3) (by omega)
                          · clear h581
                            refine sf_sw1 sf_c11 (fun h638 => ?_) (fun h638 => ?_)
                            · refine sf_aload rfl ?_
                              refine sf_aload rfl ?_
                              refine sf_iload rfl ?_
                              refine sf_iconst sf_c1 (fun z639 ez639 => ?_)
                              refine sf_iadd (by omega) (fun v640 ev640 => ?_)
                              refine sf_sldk (x := x4) (k := 1) (by omega) (by omega) (by omega) ?_
                              clear ev640 ez639
                              refine sf_aload rfl ?_
                              refine sf_iload rfl ?_
                              refine sf_iconst sf_c2 (fun z641 ez641 => ?_)
                              refine sf_iadd (by omega) (fun v642 ev642 => ?_)
                              refine sf_sldk (x := x4) (k := 2) (by omega) (by omega) (by omega) ?_
                              clear ev642 ez641
                              refine sf_aload rfl ?_
                              refine sf_callv4 rfl (by omega) (by omega) ?_
                              refine sc_W_madeIn_0_130 I_w  (fun v643 w644 Iw644 tw644 lv643 uv643 => ?_)
                              have c646 := sf_mf tw644 (p := 1) (j := 0) rfl
                              have c647 := sf_mf tw644 (p := 71) (j := 1) rfl
                              have c648 := sf_mf tw644 (p := 1) (j := 5) rfl
                              have c649 := sf_mf tw644 (p := 71) (j := 5) rfl
                              have c650 := sf_mf tw644 (p := 13) (j := 1) rfl
                              have c651 := sf_mf tw644 (p := 71) (j := 10) rfl
                              have c652 := sf_mf tw644 (p := 21) (j := 1) rfl
                              have c653 := sf_mf tw644 (p := 71) (j := 18) rfl
                              have c654 := sf_mf tw644 (p := 35) (j := 0) rfl
                              have c655 := sf_mf tw644 (p := 71) (j := 35) rfl
                              have c656 := sf_ma tw644 (p := 3) rfl
                              have c657 := sf_ma tw644 (p := 72) rfl
                              have c658 := sf_mg tw644 (p := 10) rfl
                              have c659 := sf_ma tw644 (p := 93) rfl
                              have c660 := sf_ma tw644 (p := 34) rfl
                              have c661 := sf_ma tw644 (p := 30) rfl
                              have c662 := sf_ma tw644 (p := 94) rfl
                              have c663 := sf_ma tw644 (p := 95) rfl
                              refine sf_istore (L' := [(0, .inl (.ref 100000)), (1, .inl (.ref 0)), (2, .inl (.ref 71)), (3, .inl (.ref 130)), (4, .inl (.int x4))]) rfl ?_
                              refine sf_aload rfl ?_
                              refine sf_aload rfl ?_
                              refine sf_iload rfl ?_
                              refine sf_iconst sf_c1 (fun z664 ez664 => ?_)
                              refine sf_iadd (by omega) (fun v665 ev665 => ?_)
                              refine sf_sldk (x := x4) (k := 1) (by omega) (by omega) (by omega) ?_
                              clear ev665 ez664
                              refine sf_aload rfl ?_
                              refine sf_iload rfl ?_
                              refine sf_iconst sf_c2 (fun z666 ez666 => ?_)
                              refine sf_iadd (by omega) (fun v667 ev667 => ?_)
                              refine sf_sldk (x := x4) (k := 2) (by omega) (by omega) (by omega) ?_
                              clear ev667 ez666
                              refine sf_callv3 rfl (by omega) (by omega) ?_
                              refine sf_rv Iw644 rfl ?_
                              refine sc_M_madeIn Iw644  (fun v668 w669 Iw669 tw669 lv668 uv668 => ?_)
                              have c671 := sf_mf tw669 (p := 1) (j := 0) rfl
                              have c672 := sf_mf tw669 (p := 71) (j := 1) rfl
                              have c673 := sf_mf tw669 (p := 1) (j := 5) rfl
                              have c674 := sf_mf tw669 (p := 71) (j := 5) rfl
                              have c675 := sf_mf tw669 (p := 13) (j := 1) rfl
                              have c676 := sf_mf tw669 (p := 71) (j := 10) rfl
                              have c677 := sf_mf tw669 (p := 21) (j := 1) rfl
                              have c678 := sf_mf tw669 (p := 71) (j := 18) rfl
                              have c679 := sf_mf tw669 (p := 35) (j := 0) rfl
                              have c680 := sf_mf tw669 (p := 71) (j := 35) rfl
                              have c681 := sf_ma tw669 (p := 3) rfl
                              have c682 := sf_ma tw669 (p := 72) rfl
                              have c683 := sf_mg tw669 (p := 10) rfl
                              have c684 := sf_ma tw669 (p := 93) rfl
                              have c685 := sf_mL tw669 (p := 130) rfl
                              have c686 := sf_ma tw669 (p := 34) rfl
                              have c687 := sf_ma tw669 (p := 30) rfl
                              have c688 := sf_ma tw669 (p := 94) rfl
                              have c689 := sf_ma tw669 (p := 95) rfl
                              refine sf_istore (L' := [(5, .inl (.int v643)), (0, .inl (.ref 100000)), (1, .inl (.ref 0)), (2, .inl (.ref 71)), (3, .inl (.ref 130)), (4, .inl (.int x4))]) rfl ?_
                              show kt_W_law_1421 N xs K _ _ _ _ _
                              refine sf_iinc (L' := [(6, .inl (.int v668)), (5, .inl (.int v643)), (0, .inl (.ref 100000)), (1, .inl (.ref 0)), (2, .inl (.ref 71)), (3, .inl (.ref 130))]) (x := x4) sf_c8 rfl rfl (by omega) (fun v690 ev690 => ?_)
                              refine sf_can (L' := [(0, .inl (.ref 100000)), (1, .inl (.ref 0)), (2, .inl (.ref 71)), (3, .inl (.ref 130)), (4, .inl (.int v690))]) rfl ?_
                              exact ih _ _ _ _ Iw669 (by omega) (by omega) (by omega) (by omega) (by rw [c671, c646]; rw [c672, c647]; rw [c673, c648]; rw [c674, c649]; rw [c675, c650]; rw [c676, c651]; rw [c677, c652]; rw [c678, c653]; rw [c679, c654]; rw [c680, c655]; omega) (by rw [c681, c656]; rw [c682, c657]; rw [c672, c647]; first | exact f_1 | exact hJ) (by rw [c683, c658]; rw [c684, c659]; first | exact f_2 | exact hK2) (by rw [c686, c660]; rw [c687, c661]; rw [c688, c662]; rw [c689, c663]; exact f_3) (by omega)
                            · clear h638
                              refine sf_sw1 sf_c12 (fun h691 => ?_) (fun h691 => ?_)
                              · refine sf_aload rfl ?_
                                refine sf_aload rfl ?_
                                refine sf_iload rfl ?_
                                refine sf_iconst sf_c1 (fun z692 ez692 => ?_)
                                refine sf_iadd (by omega) (fun v693 ev693 => ?_)
                                refine sf_sldk (x := x4) (k := 1) (by omega) (by omega) (by omega) ?_
                                clear ev693 ez692
                                refine sf_aload rfl ?_
                                refine sf_iload rfl ?_
                                refine sf_iconst sf_c2 (fun z694 ez694 => ?_)
                                refine sf_iadd (by omega) (fun v695 ev695 => ?_)
                                refine sf_sldk (x := x4) (k := 2) (by omega) (by omega) (by omega) ?_
                                clear ev695 ez694
                                refine sf_aload rfl ?_
                                refine sf_callv4 rfl (by omega) (by omega) ?_
                                refine sc_W_declare_0_130 I_w  (fun v696 w697 Iw697 tw697 lv696 uv696 q698_0 => ?_)
                                have c699 := sf_mf tw697 (p := 1) (j := 0) rfl
                                have c700 := sf_mf tw697 (p := 71) (j := 1) rfl
                                have c701 := sf_mf tw697 (p := 1) (j := 5) rfl
                                have c702 := sf_mf tw697 (p := 71) (j := 5) rfl
                                have c703 := sf_mf tw697 (p := 13) (j := 1) rfl
                                have c704 := sf_mf tw697 (p := 71) (j := 10) rfl
                                have c705 := sf_mf tw697 (p := 21) (j := 1) rfl
                                have c706 := sf_mf tw697 (p := 71) (j := 18) rfl
                                have c707 := sf_mf tw697 (p := 71) (j := 35) rfl
                                have c708 := sf_ma tw697 (p := 3) rfl
                                have c709 := sf_ma tw697 (p := 72) rfl
                                have c710 := sf_mg tw697 (p := 10) rfl
                                have c711 := sf_ma tw697 (p := 93) rfl
                                have c712 := sf_ma tw697 (p := 34) rfl
                                have c713 := sf_ma tw697 (p := 30) rfl
                                have c714 := sf_ma tw697 (p := 94) rfl
                                have c715 := sf_ma tw697 (p := 95) rfl
                                refine sf_istore (L' := [(0, .inl (.ref 100000)), (1, .inl (.ref 0)), (2, .inl (.ref 71)), (3, .inl (.ref 130)), (4, .inl (.int x4))]) rfl ?_
                                refine sf_aload rfl ?_
                                refine sf_aload rfl ?_
                                refine sf_iload rfl ?_
                                refine sf_iconst sf_c1 (fun z716 ez716 => ?_)
                                refine sf_iadd (by omega) (fun v717 ev717 => ?_)
                                refine sf_sldk (x := x4) (k := 1) (by omega) (by omega) (by omega) ?_
                                clear ev717 ez716
                                refine sf_aload rfl ?_
                                refine sf_iload rfl ?_
                                refine sf_iconst sf_c2 (fun z718 ez718 => ?_)
                                refine sf_iadd (by omega) (fun v719 ev719 => ?_)
                                refine sf_sldk (x := x4) (k := 2) (by omega) (by omega) (by omega) ?_
                                clear ev719 ez718
                                refine sf_callv3 rfl (by omega) (by omega) ?_
                                refine sf_rv Iw697 rfl ?_
                                refine sc_M_declare Iw697  (fun v720 w721 Iw721 tw721 lv720 uv720 q722_0 => ?_)
                                rw [c707] at q722_0
                                have c723 := sf_mf tw721 (p := 1) (j := 0) rfl
                                have c724 := sf_mf tw721 (p := 71) (j := 1) rfl
                                have c725 := sf_mf tw721 (p := 1) (j := 5) rfl
                                have c726 := sf_mf tw721 (p := 71) (j := 5) rfl
                                have c727 := sf_mf tw721 (p := 13) (j := 1) rfl
                                have c728 := sf_mf tw721 (p := 71) (j := 10) rfl
                                have c729 := sf_mf tw721 (p := 21) (j := 1) rfl
                                have c730 := sf_mf tw721 (p := 71) (j := 18) rfl
                                have c731 := sf_mf tw721 (p := 35) (j := 0) rfl
                                have c732 := sf_ma tw721 (p := 3) rfl
                                have c733 := sf_ma tw721 (p := 72) rfl
                                have c734 := sf_mg tw721 (p := 10) rfl
                                have c735 := sf_ma tw721 (p := 93) rfl
                                have c736 := sf_mL tw721 (p := 130) rfl
                                have c737 := sf_ma tw721 (p := 34) rfl
                                have c738 := sf_ma tw721 (p := 30) rfl
                                have c739 := sf_ma tw721 (p := 94) rfl
                                have c740 := sf_ma tw721 (p := 95) rfl
                                refine sf_istore (L' := [(5, .inl (.int v696)), (0, .inl (.ref 100000)), (1, .inl (.ref 0)), (2, .inl (.ref 71)), (3, .inl (.ref 130)), (4, .inl (.int x4))]) rfl ?_
                                show kt_W_law_1421 N xs K _ _ _ _ _
                                refine sf_iinc (L' := [(6, .inl (.int v720)), (5, .inl (.int v696)), (0, .inl (.ref 100000)), (1, .inl (.ref 0)), (2, .inl (.ref 71)), (3, .inl (.ref 130))]) (x := x4) sf_c8 rfl rfl (by omega) (fun v741 ev741 => ?_)
                                refine sf_can (L' := [(0, .inl (.ref 100000)), (1, .inl (.ref 0)), (2, .inl (.ref 71)), (3, .inl (.ref 130)), (4, .inl (.int v741))]) rfl ?_
                                exact ih _ _ _ _ Iw721 (by omega) (by omega) (by omega) (by omega) (by rw [c723, c699]; rw [c724, c700]; rw [c725, c701]; rw [c726, c702]; rw [c727, c703]; rw [c728, c704]; rw [c729, c705]; rw [c730, c706]; rw [c731]; omega) (by rw [c732, c708]; rw [c733, c709]; rw [c724, c700]; first | exact f_1 | exact hJ) (by rw [c734, c710]; rw [c735, c711]; first | exact f_2 | exact hK2) (by rw [c737, c712]; rw [c738, c713]; rw [c739, c714]; rw [c740, c715]; exact f_3) (by omega)
                              · clear h691
                                refine sf_sw1 sf_c13 (fun h742 => ?_) (fun h742 => ?_)
                                · refine sf_aload rfl ?_
                                  refine sf_aload rfl ?_
                                  refine sf_iload rfl ?_
                                  refine sf_iconst sf_c1 (fun z743 ez743 => ?_)
                                  refine sf_iadd (by omega) (fun v744 ev744 => ?_)
                                  refine sf_sldk (x := x4) (k := 1) (by omega) (by omega) (by omega) ?_
                                  clear ev744 ez743
                                  refine sf_aload rfl ?_
                                  refine sf_iload rfl ?_
                                  refine sf_iconst sf_c2 (fun z745 ez745 => ?_)
                                  refine sf_iadd (by omega) (fun v746 ev746 => ?_)
                                  refine sf_sldk (x := x4) (k := 2) (by omega) (by omega) (by omega) ?_
                                  clear ev746 ez745
                                  refine sf_aload rfl ?_
                                  refine sf_iload rfl ?_
                                  refine sf_iconst sf_c3 (fun z747 ez747 => ?_)
                                  refine sf_iadd (by omega) (fun v748 ev748 => ?_)
                                  refine sf_sldk (x := x4) (k := 3) (by omega) (by omega) (by omega) ?_
                                  clear ev748 ez747
                                  refine sf_aload rfl ?_
                                  refine sf_iload rfl ?_
                                  refine sf_iconst sf_c4 (fun z749 ez749 => ?_)
                                  refine sf_iadd (by omega) (fun v750 ev750 => ?_)
                                  refine sf_sldk (x := x4) (k := 4) (by omega) (by omega) (by omega) ?_
                                  clear ev750 ez749
                                  refine sf_aload rfl ?_
                                  refine sf_iload rfl ?_
                                  refine sf_iconst sf_c5 (fun z751 ez751 => ?_)
                                  refine sf_iadd (by omega) (fun v752 ev752 => ?_)
                                  refine sf_sldk (x := x4) (k := 5) (by omega) (by omega) (by omega) ?_
                                  clear ev752 ez751
                                  refine sf_aload rfl ?_
                                  refine sf_iload rfl ?_
                                  refine sf_iconst sf_c6 (fun z753 ez753 => ?_)
                                  refine sf_iadd (by omega) (fun v754 ev754 => ?_)
                                  refine sf_sldk (x := x4) (k := 6) (by omega) (by omega) (by omega) ?_
                                  clear ev754 ez753
                                  refine sf_aload rfl ?_
                                  refine sf_iload rfl ?_
                                  refine sf_iconst sf_c7 (fun z755 ez755 => ?_)
                                  refine sf_iadd (by omega) (fun v756 ev756 => ?_)
                                  refine sf_sldk (x := x4) (k := 7) (by omega) (by omega) (by omega) ?_
                                  clear ev756 ez755
                                  refine sf_f1_eq (fun h757 => ?_) (fun h757 => ?_)
                                  · refine sf_iconst sf_c0 (fun z758 ez758 => ?_)
                                    refine sf_aload rfl ?_
                                    refine sf_callv9 rfl (by omega) (by omega) ?_
                                    refine sc_W_line_0_130 I_w (by omega) (by omega) (fun v759 w760 Iw760 tw760 lv759 uv759 => ?_)
                                    have c762 := sf_mf tw760 (p := 1) (j := 0) rfl
                                    have c763 := sf_mf tw760 (p := 71) (j := 1) rfl
                                    have c764 := sf_mf tw760 (p := 1) (j := 5) rfl
                                    have c765 := sf_mf tw760 (p := 71) (j := 5) rfl
                                    have c766 := sf_mf tw760 (p := 13) (j := 1) rfl
                                    have c767 := sf_mf tw760 (p := 71) (j := 10) rfl
                                    have c768 := sf_mf tw760 (p := 21) (j := 1) rfl
                                    have c769 := sf_mf tw760 (p := 71) (j := 18) rfl
                                    have c770 := sf_mf tw760 (p := 35) (j := 0) rfl
                                    have c771 := sf_mf tw760 (p := 71) (j := 35) rfl
                                    have c772 := sf_ma tw760 (p := 3) rfl
                                    have c773 := sf_ma tw760 (p := 72) rfl
                                    have c774 := sf_mg tw760 (p := 10) rfl
                                    have c775 := sf_ma tw760 (p := 93) rfl
                                    have c776 := sf_ma tw760 (p := 34) rfl
                                    have c777 := sf_ma tw760 (p := 30) rfl
                                    have c778 := sf_ma tw760 (p := 94) rfl
                                    have c779 := sf_ma tw760 (p := 95) rfl
                                    refine sf_istore (L' := [(0, .inl (.ref 100000)), (1, .inl (.ref 0)), (2, .inl (.ref 71)), (3, .inl (.ref 130)), (4, .inl (.int x4))]) rfl ?_
                                    refine sf_aload rfl ?_
                                    refine sf_aload rfl ?_
                                    refine sf_iload rfl ?_
                                    refine sf_iconst sf_c1 (fun z780 ez780 => ?_)
                                    refine sf_iadd (by omega) (fun v781 ev781 => ?_)
                                    refine sf_sldk (x := x4) (k := 1) (by omega) (by omega) (by omega) ?_
                                    clear ev781 ez780
                                    refine sf_aload rfl ?_
                                    refine sf_iload rfl ?_
                                    refine sf_iconst sf_c2 (fun z782 ez782 => ?_)
                                    refine sf_iadd (by omega) (fun v783 ev783 => ?_)
                                    refine sf_sldk (x := x4) (k := 2) (by omega) (by omega) (by omega) ?_
                                    clear ev783 ez782
                                    refine sf_aload rfl ?_
                                    refine sf_iload rfl ?_
                                    refine sf_iconst sf_c3 (fun z784 ez784 => ?_)
                                    refine sf_iadd (by omega) (fun v785 ev785 => ?_)
                                    refine sf_sldk (x := x4) (k := 3) (by omega) (by omega) (by omega) ?_
                                    clear ev785 ez784
                                    refine sf_aload rfl ?_
                                    refine sf_iload rfl ?_
                                    refine sf_iconst sf_c4 (fun z786 ez786 => ?_)
                                    refine sf_iadd (by omega) (fun v787 ev787 => ?_)
                                    refine sf_sldk (x := x4) (k := 4) (by omega) (by omega) (by omega) ?_
                                    clear ev787 ez786
                                    refine sf_aload rfl ?_
                                    refine sf_iload rfl ?_
                                    refine sf_iconst sf_c5 (fun z788 ez788 => ?_)
                                    refine sf_iadd (by omega) (fun v789 ev789 => ?_)
                                    refine sf_sldk (x := x4) (k := 5) (by omega) (by omega) (by omega) ?_
                                    clear ev789 ez788
                                    refine sf_aload rfl ?_
                                    refine sf_iload rfl ?_
                                    refine sf_iconst sf_c6 (fun z790 ez790 => ?_)
                                    refine sf_iadd (by omega) (fun v791 ev791 => ?_)
                                    refine sf_sldk (x := x4) (k := 6) (by omega) (by omega) (by omega) ?_
                                    clear ev791 ez790
                                    refine sf_aload rfl ?_
                                    refine sf_iload rfl ?_
                                    refine sf_iconst sf_c7 (fun z792 ez792 => ?_)
                                    refine sf_iadd (by omega) (fun v793 ev793 => ?_)
                                    refine sf_sldk (x := x4) (k := 7) (by omega) (by omega) (by omega) ?_
                                    clear ev793 ez792
                                    refine sf_f1_eq (fun h794 => ?_) (fun h794 => absurd h794 (by omega))
                                    refine sf_iconst sf_c0 (fun z795 ez795 => ?_)
                                    refine sf_callv8 rfl (by omega) (by omega) ?_
                                    refine sf_rv Iw760 rfl ?_
                                    refine sc_M_line Iw760 (by omega) (by omega) (fun v796 w797 Iw797 tw797 lv796 uv796 => ?_)
                                    have c799 := sf_mf tw797 (p := 1) (j := 0) rfl
                                    have c800 := sf_mf tw797 (p := 71) (j := 1) rfl
                                    have c801 := sf_mf tw797 (p := 1) (j := 5) rfl
                                    have c802 := sf_mf tw797 (p := 71) (j := 5) rfl
                                    have c803 := sf_mf tw797 (p := 13) (j := 1) rfl
                                    have c804 := sf_mf tw797 (p := 71) (j := 10) rfl
                                    have c805 := sf_mf tw797 (p := 21) (j := 1) rfl
                                    have c806 := sf_mf tw797 (p := 71) (j := 18) rfl
                                    have c807 := sf_mf tw797 (p := 35) (j := 0) rfl
                                    have c808 := sf_mf tw797 (p := 71) (j := 35) rfl
                                    have c809 := sf_ma tw797 (p := 3) rfl
                                    have c810 := sf_ma tw797 (p := 72) rfl
                                    have c811 := sf_mg tw797 (p := 10) rfl
                                    have c812 := sf_ma tw797 (p := 93) rfl
                                    have c813 := sf_mL tw797 (p := 130) rfl
                                    have c814 := sf_ma tw797 (p := 34) rfl
                                    have c815 := sf_ma tw797 (p := 30) rfl
                                    have c816 := sf_ma tw797 (p := 94) rfl
                                    have c817 := sf_ma tw797 (p := 95) rfl
                                    refine sf_istore (L' := [(5, .inl (.int v759)), (0, .inl (.ref 100000)), (1, .inl (.ref 0)), (2, .inl (.ref 71)), (3, .inl (.ref 130)), (4, .inl (.int x4))]) rfl ?_
                                    show kt_W_law_1421 N xs K _ _ _ _ _
                                    refine sf_iinc (L' := [(6, .inl (.int v796)), (5, .inl (.int v759)), (0, .inl (.ref 100000)), (1, .inl (.ref 0)), (2, .inl (.ref 71)), (3, .inl (.ref 130))]) (x := x4) sf_c8 rfl rfl (by omega) (fun v818 ev818 => ?_)
                                    refine sf_can (L' := [(0, .inl (.ref 100000)), (1, .inl (.ref 0)), (2, .inl (.ref 71)), (3, .inl (.ref 130)), (4, .inl (.int v818))]) rfl ?_
                                    exact ih _ _ _ _ Iw797 (by omega) (by omega) (by omega) (by omega) (by rw [c799, c762]; rw [c800, c763]; rw [c801, c764]; rw [c802, c765]; rw [c803, c766]; rw [c804, c767]; rw [c805, c768]; rw [c806, c769]; rw [c807, c770]; rw [c808, c771]; omega) (by rw [c809, c772]; rw [c810, c773]; rw [c800, c763]; first | exact f_1 | exact hJ) (by rw [c811, c774]; rw [c812, c775]; first | exact f_2 | exact hK2) (by rw [c814, c776]; rw [c815, c777]; rw [c816, c778]; rw [c817, c779]; exact f_3) (by omega)
                                  · refine sf_iconst sf_c1 (fun z819 ez819 => ?_)
                                    show kt_W_law_909 N xs K _ _ _ _ _
                                    refine sf_aload rfl ?_
                                    refine sf_callv9 rfl (by omega) (by omega) ?_
                                    refine sc_W_line_0_130 I_w (by omega) (by omega) (fun v820 w821 Iw821 tw821 lv820 uv820 => ?_)
                                    have c823 := sf_mf tw821 (p := 1) (j := 0) rfl
                                    have c824 := sf_mf tw821 (p := 71) (j := 1) rfl
                                    have c825 := sf_mf tw821 (p := 1) (j := 5) rfl
                                    have c826 := sf_mf tw821 (p := 71) (j := 5) rfl
                                    have c827 := sf_mf tw821 (p := 13) (j := 1) rfl
                                    have c828 := sf_mf tw821 (p := 71) (j := 10) rfl
                                    have c829 := sf_mf tw821 (p := 21) (j := 1) rfl
                                    have c830 := sf_mf tw821 (p := 71) (j := 18) rfl
                                    have c831 := sf_mf tw821 (p := 35) (j := 0) rfl
                                    have c832 := sf_mf tw821 (p := 71) (j := 35) rfl
                                    have c833 := sf_ma tw821 (p := 3) rfl
                                    have c834 := sf_ma tw821 (p := 72) rfl
                                    have c835 := sf_mg tw821 (p := 10) rfl
                                    have c836 := sf_ma tw821 (p := 93) rfl
                                    have c837 := sf_ma tw821 (p := 34) rfl
                                    have c838 := sf_ma tw821 (p := 30) rfl
                                    have c839 := sf_ma tw821 (p := 94) rfl
                                    have c840 := sf_ma tw821 (p := 95) rfl
                                    refine sf_istore (L' := [(0, .inl (.ref 100000)), (1, .inl (.ref 0)), (2, .inl (.ref 71)), (3, .inl (.ref 130)), (4, .inl (.int x4))]) rfl ?_
                                    refine sf_aload rfl ?_
                                    refine sf_aload rfl ?_
                                    refine sf_iload rfl ?_
                                    refine sf_iconst sf_c1 (fun z841 ez841 => ?_)
                                    refine sf_iadd (by omega) (fun v842 ev842 => ?_)
                                    refine sf_sldk (x := x4) (k := 1) (by omega) (by omega) (by omega) ?_
                                    clear ev842 ez841
                                    refine sf_aload rfl ?_
                                    refine sf_iload rfl ?_
                                    refine sf_iconst sf_c2 (fun z843 ez843 => ?_)
                                    refine sf_iadd (by omega) (fun v844 ev844 => ?_)
                                    refine sf_sldk (x := x4) (k := 2) (by omega) (by omega) (by omega) ?_
                                    clear ev844 ez843
                                    refine sf_aload rfl ?_
                                    refine sf_iload rfl ?_
                                    refine sf_iconst sf_c3 (fun z845 ez845 => ?_)
                                    refine sf_iadd (by omega) (fun v846 ev846 => ?_)
                                    refine sf_sldk (x := x4) (k := 3) (by omega) (by omega) (by omega) ?_
                                    clear ev846 ez845
                                    refine sf_aload rfl ?_
                                    refine sf_iload rfl ?_
                                    refine sf_iconst sf_c4 (fun z847 ez847 => ?_)
                                    refine sf_iadd (by omega) (fun v848 ev848 => ?_)
                                    refine sf_sldk (x := x4) (k := 4) (by omega) (by omega) (by omega) ?_
                                    clear ev848 ez847
                                    refine sf_aload rfl ?_
                                    refine sf_iload rfl ?_
                                    refine sf_iconst sf_c5 (fun z849 ez849 => ?_)
                                    refine sf_iadd (by omega) (fun v850 ev850 => ?_)
                                    refine sf_sldk (x := x4) (k := 5) (by omega) (by omega) (by omega) ?_
                                    clear ev850 ez849
                                    refine sf_aload rfl ?_
                                    refine sf_iload rfl ?_
                                    refine sf_iconst sf_c6 (fun z851 ez851 => ?_)
                                    refine sf_iadd (by omega) (fun v852 ev852 => ?_)
                                    refine sf_sldk (x := x4) (k := 6) (by omega) (by omega) (by omega) ?_
                                    clear ev852 ez851
                                    refine sf_aload rfl ?_
                                    refine sf_iload rfl ?_
                                    refine sf_iconst sf_c7 (fun z853 ez853 => ?_)
                                    refine sf_iadd (by omega) (fun v854 ev854 => ?_)
                                    refine sf_sldk (x := x4) (k := 7) (by omega) (by omega) (by omega) ?_
                                    clear ev854 ez853
                                    refine sf_f1_eq (fun h855 => ?_) (fun h855 => ?_)
                                    · refine sf_iconst sf_c0 (fun z856 ez856 => ?_)
                                      refine sf_callv8 rfl (by omega) (by omega) ?_
                                      refine sf_rv Iw821 rfl ?_
                                      refine sc_M_line Iw821 (by omega) (by omega) (fun v857 w858 Iw858 tw858 lv857 uv857 => ?_)
                                      have c860 := sf_mf tw858 (p := 1) (j := 0) rfl
                                      have c861 := sf_mf tw858 (p := 71) (j := 1) rfl
                                      have c862 := sf_mf tw858 (p := 1) (j := 5) rfl
                                      have c863 := sf_mf tw858 (p := 71) (j := 5) rfl
                                      have c864 := sf_mf tw858 (p := 13) (j := 1) rfl
                                      have c865 := sf_mf tw858 (p := 71) (j := 10) rfl
                                      have c866 := sf_mf tw858 (p := 21) (j := 1) rfl
                                      have c867 := sf_mf tw858 (p := 71) (j := 18) rfl
                                      have c868 := sf_mf tw858 (p := 35) (j := 0) rfl
                                      have c869 := sf_mf tw858 (p := 71) (j := 35) rfl
                                      have c870 := sf_ma tw858 (p := 3) rfl
                                      have c871 := sf_ma tw858 (p := 72) rfl
                                      have c872 := sf_mg tw858 (p := 10) rfl
                                      have c873 := sf_ma tw858 (p := 93) rfl
                                      have c874 := sf_mL tw858 (p := 130) rfl
                                      have c875 := sf_ma tw858 (p := 34) rfl
                                      have c876 := sf_ma tw858 (p := 30) rfl
                                      have c877 := sf_ma tw858 (p := 94) rfl
                                      have c878 := sf_ma tw858 (p := 95) rfl
                                      refine sf_istore (L' := [(5, .inl (.int v820)), (0, .inl (.ref 100000)), (1, .inl (.ref 0)), (2, .inl (.ref 71)), (3, .inl (.ref 130)), (4, .inl (.int x4))]) rfl ?_
                                      show kt_W_law_1421 N xs K _ _ _ _ _
                                      refine sf_iinc (L' := [(6, .inl (.int v857)), (5, .inl (.int v820)), (0, .inl (.ref 100000)), (1, .inl (.ref 0)), (2, .inl (.ref 71)), (3, .inl (.ref 130))]) (x := x4) sf_c8 rfl rfl (by omega) (fun v879 ev879 => ?_)
                                      refine sf_can (L' := [(0, .inl (.ref 100000)), (1, .inl (.ref 0)), (2, .inl (.ref 71)), (3, .inl (.ref 130)), (4, .inl (.int v879))]) rfl ?_
                                      exact ih _ _ _ _ Iw858 (by omega) (by omega) (by omega) (by omega) (by rw [c860, c823]; rw [c861, c824]; rw [c862, c825]; rw [c863, c826]; rw [c864, c827]; rw [c865, c828]; rw [c866, c829]; rw [c867, c830]; rw [c868, c831]; rw [c869, c832]; omega) (by rw [c870, c833]; rw [c871, c834]; rw [c861, c824]; first | exact f_1 | exact hJ) (by rw [c872, c835]; rw [c873, c836]; first | exact f_2 | exact hK2) (by rw [c875, c837]; rw [c876, c838]; rw [c877, c839]; rw [c878, c840]; exact f_3) (by omega)
                                    · refine sf_iconst sf_c1 (fun z880 ez880 => ?_)
                                      show kt_W_law_968 N xs K _ _ _ _ _
                                      refine sf_callv8 rfl (by omega) (by omega) ?_
                                      refine sf_rv Iw821 rfl ?_
                                      refine sc_M_line Iw821 (by omega) (by omega) (fun v881 w882 Iw882 tw882 lv881 uv881 => ?_)
                                      have c884 := sf_mf tw882 (p := 1) (j := 0) rfl
                                      have c885 := sf_mf tw882 (p := 71) (j := 1) rfl
                                      have c886 := sf_mf tw882 (p := 1) (j := 5) rfl
                                      have c887 := sf_mf tw882 (p := 71) (j := 5) rfl
                                      have c888 := sf_mf tw882 (p := 13) (j := 1) rfl
                                      have c889 := sf_mf tw882 (p := 71) (j := 10) rfl
                                      have c890 := sf_mf tw882 (p := 21) (j := 1) rfl
                                      have c891 := sf_mf tw882 (p := 71) (j := 18) rfl
                                      have c892 := sf_mf tw882 (p := 35) (j := 0) rfl
                                      have c893 := sf_mf tw882 (p := 71) (j := 35) rfl
                                      have c894 := sf_ma tw882 (p := 3) rfl
                                      have c895 := sf_ma tw882 (p := 72) rfl
                                      have c896 := sf_mg tw882 (p := 10) rfl
                                      have c897 := sf_ma tw882 (p := 93) rfl
                                      have c898 := sf_mL tw882 (p := 130) rfl
                                      have c899 := sf_ma tw882 (p := 34) rfl
                                      have c900 := sf_ma tw882 (p := 30) rfl
                                      have c901 := sf_ma tw882 (p := 94) rfl
                                      have c902 := sf_ma tw882 (p := 95) rfl
                                      refine sf_istore (L' := [(5, .inl (.int v820)), (0, .inl (.ref 100000)), (1, .inl (.ref 0)), (2, .inl (.ref 71)), (3, .inl (.ref 130)), (4, .inl (.int x4))]) rfl ?_
                                      show kt_W_law_1421 N xs K _ _ _ _ _
                                      refine sf_iinc (L' := [(6, .inl (.int v881)), (5, .inl (.int v820)), (0, .inl (.ref 100000)), (1, .inl (.ref 0)), (2, .inl (.ref 71)), (3, .inl (.ref 130))]) (x := x4) sf_c8 rfl rfl (by omega) (fun v903 ev903 => ?_)
                                      refine sf_can (L' := [(0, .inl (.ref 100000)), (1, .inl (.ref 0)), (2, .inl (.ref 71)), (3, .inl (.ref 130)), (4, .inl (.int v903))]) rfl ?_
                                      exact ih _ _ _ _ Iw882 (by omega) (by omega) (by omega) (by omega) (by rw [c884, c823]; rw [c885, c824]; rw [c886, c825]; rw [c887, c826]; rw [c888, c827]; rw [c889, c828]; rw [c890, c829]; rw [c891, c830]; rw [c892, c831]; rw [c893, c832]; omega) (by rw [c894, c833]; rw [c895, c834]; rw [c885, c824]; first | exact f_1 | exact hJ) (by rw [c896, c835]; rw [c897, c836]; first | exact f_2 | exact hK2) (by rw [c899, c837]; rw [c900, c838]; rw [c901, c839]; rw [c902, c840]; exact f_3) (by omega)
                                · clear h742
                                  refine sf_sw1 sf_c14 (fun h904 => ?_) (fun h904 => ?_)
                                  · refine sf_aload rfl ?_
                                    refine sf_aload rfl ?_
                                    refine sf_iload rfl ?_
                                    refine sf_iconst sf_c1 (fun z905 ez905 => ?_)
                                    refine sf_iadd (by omega) (fun v906 ev906 => ?_)
                                    refine sf_sldk (x := x4) (k := 1) (by omega) (by omega) (by omega) ?_
                                    clear ev906 ez905
                                    refine sf_aload rfl ?_
                                    refine sf_iload rfl ?_
                                    refine sf_iconst sf_c2 (fun z907 ez907 => ?_)
                                    refine sf_iadd (by omega) (fun v908 ev908 => ?_)
                                    refine sf_sldk (x := x4) (k := 2) (by omega) (by omega) (by omega) ?_
                                    clear ev908 ez907
                                    refine sf_aload rfl ?_
                                    refine sf_iload rfl ?_
                                    refine sf_iconst sf_c3 (fun z909 ez909 => ?_)
                                    refine sf_iadd (by omega) (fun v910 ev910 => ?_)
                                    refine sf_sldk (x := x4) (k := 3) (by omega) (by omega) (by omega) ?_
                                    clear ev910 ez909
                                    refine sf_callv4 rfl (by omega) (by omega) ?_
                                    refine sc_W_charge_0 I_w  (fun v911 w912 Iw912 tw912 lv911 uv911 => ?_)
                                    have c914 := sf_mf tw912 (p := 1) (j := 0) rfl
                                    have c915 := sf_mf tw912 (p := 71) (j := 1) rfl
                                    have c916 := sf_mf tw912 (p := 1) (j := 5) rfl
                                    have c917 := sf_mf tw912 (p := 71) (j := 5) rfl
                                    have c918 := sf_mf tw912 (p := 13) (j := 1) rfl
                                    have c919 := sf_mf tw912 (p := 71) (j := 10) rfl
                                    have c920 := sf_mf tw912 (p := 21) (j := 1) rfl
                                    have c921 := sf_mf tw912 (p := 71) (j := 18) rfl
                                    have c922 := sf_mf tw912 (p := 35) (j := 0) rfl
                                    have c923 := sf_mf tw912 (p := 71) (j := 35) rfl
                                    have c924 := sf_ma tw912 (p := 3) rfl
                                    have c925 := sf_ma tw912 (p := 72) rfl
                                    have c926 := sf_mg tw912 (p := 10) rfl
                                    have c927 := sf_ma tw912 (p := 93) rfl
                                    have c928 := sf_mL tw912 (p := 130) rfl
                                    have c929 := sf_ma tw912 (p := 34) rfl
                                    have c930 := sf_ma tw912 (p := 30) rfl
                                    have c931 := sf_ma tw912 (p := 94) rfl
                                    have c932 := sf_ma tw912 (p := 95) rfl
                                    refine sf_istore (L' := [(0, .inl (.ref 100000)), (1, .inl (.ref 0)), (2, .inl (.ref 71)), (3, .inl (.ref 130)), (4, .inl (.int x4))]) rfl ?_
                                    refine sf_aload rfl ?_
                                    refine sf_aload rfl ?_
                                    refine sf_iload rfl ?_
                                    refine sf_iconst sf_c1 (fun z933 ez933 => ?_)
                                    refine sf_iadd (by omega) (fun v934 ev934 => ?_)
                                    refine sf_sldk (x := x4) (k := 1) (by omega) (by omega) (by omega) ?_
                                    clear ev934 ez933
                                    refine sf_aload rfl ?_
                                    refine sf_iload rfl ?_
                                    refine sf_iconst sf_c2 (fun z935 ez935 => ?_)
                                    refine sf_iadd (by omega) (fun v936 ev936 => ?_)
                                    refine sf_sldk (x := x4) (k := 2) (by omega) (by omega) (by omega) ?_
                                    clear ev936 ez935
                                    refine sf_aload rfl ?_
                                    refine sf_iload rfl ?_
                                    refine sf_iconst sf_c3 (fun z937 ez937 => ?_)
                                    refine sf_iadd (by omega) (fun v938 ev938 => ?_)
                                    refine sf_sldk (x := x4) (k := 3) (by omega) (by omega) (by omega) ?_
                                    clear ev938 ez937
                                    refine sf_callv4 rfl (by omega) (by omega) ?_
                                    refine sf_rv Iw912 rfl ?_
                                    refine sc_M_charge Iw912  (fun w939 Iw939 tw939 => ?_)
                                    have c941 := sf_mf tw939 (p := 1) (j := 0) rfl
                                    have c942 := sf_mf tw939 (p := 71) (j := 1) rfl
                                    have c943 := sf_mf tw939 (p := 1) (j := 5) rfl
                                    have c944 := sf_mf tw939 (p := 71) (j := 5) rfl
                                    have c945 := sf_mf tw939 (p := 13) (j := 1) rfl
                                    have c946 := sf_mf tw939 (p := 71) (j := 10) rfl
                                    have c947 := sf_mf tw939 (p := 21) (j := 1) rfl
                                    have c948 := sf_mf tw939 (p := 71) (j := 18) rfl
                                    have c949 := sf_mf tw939 (p := 35) (j := 0) rfl
                                    have c950 := sf_mf tw939 (p := 71) (j := 35) rfl
                                    have c951 := sf_ma tw939 (p := 3) rfl
                                    have c952 := sf_ma tw939 (p := 72) rfl
                                    have c953 := sf_mg tw939 (p := 10) rfl
                                    have c954 := sf_ma tw939 (p := 93) rfl
                                    have c955 := sf_mL tw939 (p := 130) rfl
                                    have c956 := sf_ma tw939 (p := 34) rfl
                                    have c957 := sf_ma tw939 (p := 30) rfl
                                    have c958 := sf_ma tw939 (p := 94) rfl
                                    have c959 := sf_ma tw939 (p := 95) rfl
                                    show kt_W_law_1421 N xs K _ _ _ _ _
                                    refine sf_iinc (L' := [(5, .inl (.int v911)), (0, .inl (.ref 100000)), (1, .inl (.ref 0)), (2, .inl (.ref 71)), (3, .inl (.ref 130))]) (x := x4) sf_c8 rfl rfl (by omega) (fun v960 ev960 => ?_)
                                    refine sf_can (L' := [(0, .inl (.ref 100000)), (1, .inl (.ref 0)), (2, .inl (.ref 71)), (3, .inl (.ref 130)), (4, .inl (.int v960))]) rfl ?_
                                    exact ih _ _ _ _ Iw939 (by omega) (by omega) (by omega) (by omega) (by rw [c941, c914]; rw [c942, c915]; rw [c943, c916]; rw [c944, c917]; rw [c945, c918]; rw [c946, c919]; rw [c947, c920]; rw [c948, c921]; rw [c949, c922]; rw [c950, c923]; omega) (by rw [c951, c924]; rw [c952, c925]; rw [c942, c915]; first | exact f_1 | exact hJ) (by rw [c953, c926]; rw [c954, c927]; first | exact f_2 | exact hK2) (by rw [c956, c929]; rw [c957, c930]; rw [c958, c931]; rw [c959, c932]; exact f_3) (by omega)
                                  · clear h904
                                    refine sf_sw1 sf_c15 (fun h961 => ?_) (fun h961 => ?_)
                                    · refine sf_aload rfl ?_
                                      refine sf_aload rfl ?_
                                      refine sf_iload rfl ?_
                                      refine sf_iconst sf_c1 (fun z962 ez962 => ?_)
                                      refine sf_iadd (by omega) (fun v963 ev963 => ?_)
                                      refine sf_sldk (x := x4) (k := 1) (by omega) (by omega) (by omega) ?_
                                      clear ev963 ez962
                                      refine sf_aload rfl ?_
                                      refine sf_iload rfl ?_
                                      refine sf_iconst sf_c2 (fun z964 ez964 => ?_)
                                      refine sf_iadd (by omega) (fun v965 ev965 => ?_)
                                      refine sf_sldk (x := x4) (k := 2) (by omega) (by omega) (by omega) ?_
                                      clear ev965 ez964
                                      refine sf_aload rfl ?_
                                      refine sf_iload rfl ?_
                                      refine sf_iconst sf_c3 (fun z966 ez966 => ?_)
                                      refine sf_iadd (by omega) (fun v967 ev967 => ?_)
                                      refine sf_sldk (x := x4) (k := 3) (by omega) (by omega) (by omega) ?_
                                      clear ev967 ez966
                                      refine sf_aload rfl ?_
                                      refine sf_callv5 rfl (by omega) (by omega) ?_
                                      refine sc_W_lineOf_0_130 I_w  (fun v968 w969 Iw969 tw969 lv968 uv968 => ?_)
                                      have c971 := sf_mf tw969 (p := 1) (j := 0) rfl
                                      have c972 := sf_mf tw969 (p := 71) (j := 1) rfl
                                      have c973 := sf_mf tw969 (p := 1) (j := 5) rfl
                                      have c974 := sf_mf tw969 (p := 71) (j := 5) rfl
                                      have c975 := sf_mf tw969 (p := 13) (j := 1) rfl
                                      have c976 := sf_mf tw969 (p := 71) (j := 10) rfl
                                      have c977 := sf_mf tw969 (p := 21) (j := 1) rfl
                                      have c978 := sf_mf tw969 (p := 71) (j := 18) rfl
                                      have c979 := sf_mf tw969 (p := 35) (j := 0) rfl
                                      have c980 := sf_mf tw969 (p := 71) (j := 35) rfl
                                      have c981 := sf_ma tw969 (p := 3) rfl
                                      have c982 := sf_ma tw969 (p := 72) rfl
                                      have c983 := sf_mg tw969 (p := 10) rfl
                                      have c984 := sf_ma tw969 (p := 93) rfl
                                      have c985 := sf_ma tw969 (p := 34) rfl
                                      have c986 := sf_ma tw969 (p := 30) rfl
                                      have c987 := sf_ma tw969 (p := 94) rfl
                                      have c988 := sf_ma tw969 (p := 95) rfl
                                      refine sf_istore (L' := [(0, .inl (.ref 100000)), (1, .inl (.ref 0)), (2, .inl (.ref 71)), (3, .inl (.ref 130)), (4, .inl (.int x4))]) rfl ?_
                                      refine sf_aload rfl ?_
                                      refine sf_aload rfl ?_
                                      refine sf_iload rfl ?_
                                      refine sf_iconst sf_c1 (fun z989 ez989 => ?_)
                                      refine sf_iadd (by omega) (fun v990 ev990 => ?_)
                                      refine sf_sldk (x := x4) (k := 1) (by omega) (by omega) (by omega) ?_
                                      clear ev990 ez989
                                      refine sf_aload rfl ?_
                                      refine sf_iload rfl ?_
                                      refine sf_iconst sf_c2 (fun z991 ez991 => ?_)
                                      refine sf_iadd (by omega) (fun v992 ev992 => ?_)
                                      refine sf_sldk (x := x4) (k := 2) (by omega) (by omega) (by omega) ?_
                                      clear ev992 ez991
                                      refine sf_aload rfl ?_
                                      refine sf_iload rfl ?_
                                      refine sf_iconst sf_c3 (fun z993 ez993 => ?_)
                                      refine sf_iadd (by omega) (fun v994 ev994 => ?_)
                                      refine sf_sldk (x := x4) (k := 3) (by omega) (by omega) (by omega) ?_
                                      clear ev994 ez993
                                      refine sf_callv4 rfl (by omega) (by omega) ?_
                                      refine sf_rv Iw969 rfl ?_
                                      refine sc_M_lineOf Iw969  (fun v995 w996 Iw996 tw996 => ?_)
                                      have c998 := sf_mf tw996 (p := 1) (j := 0) rfl
                                      have c999 := sf_mf tw996 (p := 71) (j := 1) rfl
                                      have c1000 := sf_mf tw996 (p := 1) (j := 5) rfl
                                      have c1001 := sf_mf tw996 (p := 71) (j := 5) rfl
                                      have c1002 := sf_mf tw996 (p := 13) (j := 1) rfl
                                      have c1003 := sf_mf tw996 (p := 71) (j := 10) rfl
                                      have c1004 := sf_mf tw996 (p := 21) (j := 1) rfl
                                      have c1005 := sf_mf tw996 (p := 71) (j := 18) rfl
                                      have c1006 := sf_mf tw996 (p := 35) (j := 0) rfl
                                      have c1007 := sf_mf tw996 (p := 71) (j := 35) rfl
                                      have c1008 := sf_ma tw996 (p := 3) rfl
                                      have c1009 := sf_ma tw996 (p := 72) rfl
                                      have c1010 := sf_mg tw996 (p := 10) rfl
                                      have c1011 := sf_ma tw996 (p := 93) rfl
                                      have c1012 := sf_mL tw996 (p := 130) rfl
                                      have c1013 := sf_ma tw996 (p := 34) rfl
                                      have c1014 := sf_ma tw996 (p := 30) rfl
                                      have c1015 := sf_ma tw996 (p := 94) rfl
                                      have c1016 := sf_ma tw996 (p := 95) rfl
                                      refine sf_lstore (L' := [(5, .inl (.int v968)), (0, .inl (.ref 100000)), (1, .inl (.ref 0)), (2, .inl (.ref 71)), (3, .inl (.ref 130)), (4, .inl (.int x4))]) rfl ?_
                                      show kt_W_law_1421 N xs K _ _ _ _ _
                                      refine sf_iinc (L' := [(6, .inl (.long v995)), (5, .inl (.int v968)), (0, .inl (.ref 100000)), (1, .inl (.ref 0)), (2, .inl (.ref 71)), (3, .inl (.ref 130))]) (x := x4) sf_c8 rfl rfl (by omega) (fun v1017 ev1017 => ?_)
                                      refine sf_can (L' := [(0, .inl (.ref 100000)), (1, .inl (.ref 0)), (2, .inl (.ref 71)), (3, .inl (.ref 130)), (4, .inl (.int v1017))]) rfl ?_
                                      exact ih _ _ _ _ Iw996 (by omega) (by omega) (by omega) (by omega) (by rw [c998, c971]; rw [c999, c972]; rw [c1000, c973]; rw [c1001, c974]; rw [c1002, c975]; rw [c1003, c976]; rw [c1004, c977]; rw [c1005, c978]; rw [c1006, c979]; rw [c1007, c980]; omega) (by rw [c1008, c981]; rw [c1009, c982]; rw [c999, c972]; first | exact f_1 | exact hJ) (by rw [c1010, c983]; rw [c1011, c984]; first | exact f_2 | exact hK2) (by rw [c1013, c985]; rw [c1014, c986]; rw [c1015, c987]; rw [c1016, c988]; exact f_3) (by omega)
                                    · clear h961
                                      refine sf_sw1 sf_c16 (fun h1018 => ?_) (fun h1018 => ?_)
                                      · refine sf_aload rfl ?_
                                        refine sf_aload rfl ?_
                                        refine sf_iload rfl ?_
                                        refine sf_iconst sf_c1 (fun z1019 ez1019 => ?_)
                                        refine sf_iadd (by omega) (fun v1020 ev1020 => ?_)
                                        refine sf_sldk (x := x4) (k := 1) (by omega) (by omega) (by omega) ?_
                                        clear ev1020 ez1019
                                        refine sf_aload rfl ?_
                                        refine sf_callv3 rfl (by omega) (by omega) ?_
                                        refine sc_W_accept_0_130 I_w  (fun v1021 w1022 Iw1022 tw1022 lv1021 uv1021 => ?_)
                                        have c1024 := sf_mf tw1022 (p := 1) (j := 0) rfl
                                        have c1025 := sf_mf tw1022 (p := 71) (j := 1) rfl
                                        have c1026 := sf_mf tw1022 (p := 1) (j := 5) rfl
                                        have c1027 := sf_mf tw1022 (p := 71) (j := 5) rfl
                                        have c1028 := sf_mf tw1022 (p := 13) (j := 1) rfl
                                        have c1029 := sf_mf tw1022 (p := 71) (j := 10) rfl
                                        have c1030 := sf_mf tw1022 (p := 21) (j := 1) rfl
                                        have c1031 := sf_mf tw1022 (p := 71) (j := 18) rfl
                                        have c1032 := sf_mf tw1022 (p := 35) (j := 0) rfl
                                        have c1033 := sf_mf tw1022 (p := 71) (j := 35) rfl
                                        have c1034 := sf_ma tw1022 (p := 3) rfl
                                        have c1035 := sf_ma tw1022 (p := 72) rfl
                                        have c1036 := sf_mg tw1022 (p := 10) rfl
                                        have c1037 := sf_ma tw1022 (p := 93) rfl
                                        have c1038 := sf_ma tw1022 (p := 34) rfl
                                        have c1039 := sf_ma tw1022 (p := 30) rfl
                                        have c1040 := sf_ma tw1022 (p := 94) rfl
                                        have c1041 := sf_ma tw1022 (p := 95) rfl
                                        refine sf_istore (L' := [(0, .inl (.ref 100000)), (1, .inl (.ref 0)), (2, .inl (.ref 71)), (3, .inl (.ref 130)), (4, .inl (.int x4))]) rfl ?_
                                        refine sf_aload rfl ?_
                                        refine sf_aload rfl ?_
                                        refine sf_iload rfl ?_
                                        refine sf_iconst sf_c1 (fun z1042 ez1042 => ?_)
                                        refine sf_iadd (by omega) (fun v1043 ev1043 => ?_)
                                        refine sf_sldk (x := x4) (k := 1) (by omega) (by omega) (by omega) ?_
                                        clear ev1043 ez1042
                                        refine sf_callv2 rfl (by omega) (by omega) ?_
                                        refine sf_rv Iw1022 rfl ?_
                                        refine sc_M_accept Iw1022  (fun v1044 w1045 Iw1045 tw1045 => ?_)
                                        have c1047 := sf_mf tw1045 (p := 1) (j := 0) rfl
                                        have c1048 := sf_mf tw1045 (p := 71) (j := 1) rfl
                                        have c1049 := sf_mf tw1045 (p := 1) (j := 5) rfl
                                        have c1050 := sf_mf tw1045 (p := 71) (j := 5) rfl
                                        have c1051 := sf_mf tw1045 (p := 13) (j := 1) rfl
                                        have c1052 := sf_mf tw1045 (p := 71) (j := 10) rfl
                                        have c1053 := sf_mf tw1045 (p := 21) (j := 1) rfl
                                        have c1054 := sf_mf tw1045 (p := 71) (j := 18) rfl
                                        have c1055 := sf_mf tw1045 (p := 35) (j := 0) rfl
                                        have c1056 := sf_mf tw1045 (p := 71) (j := 35) rfl
                                        have c1057 := sf_ma tw1045 (p := 3) rfl
                                        have c1058 := sf_ma tw1045 (p := 72) rfl
                                        have c1059 := sf_mg tw1045 (p := 10) rfl
                                        have c1060 := sf_ma tw1045 (p := 93) rfl
                                        have c1061 := sf_mL tw1045 (p := 130) rfl
                                        have c1062 := sf_ma tw1045 (p := 34) rfl
                                        have c1063 := sf_ma tw1045 (p := 30) rfl
                                        have c1064 := sf_ma tw1045 (p := 94) rfl
                                        have c1065 := sf_ma tw1045 (p := 95) rfl
                                        refine sf_lstore (L' := [(5, .inl (.int v1021)), (0, .inl (.ref 100000)), (1, .inl (.ref 0)), (2, .inl (.ref 71)), (3, .inl (.ref 130)), (4, .inl (.int x4))]) rfl ?_
                                        show kt_W_law_1421 N xs K _ _ _ _ _
                                        refine sf_iinc (L' := [(6, .inl (.long v1044)), (5, .inl (.int v1021)), (0, .inl (.ref 100000)), (1, .inl (.ref 0)), (2, .inl (.ref 71)), (3, .inl (.ref 130))]) (x := x4) sf_c8 rfl rfl (by omega) (fun v1066 ev1066 => ?_)
                                        refine sf_can (L' := [(0, .inl (.ref 100000)), (1, .inl (.ref 0)), (2, .inl (.ref 71)), (3, .inl (.ref 130)), (4, .inl (.int v1066))]) rfl ?_
                                        exact ih _ _ _ _ Iw1045 (by omega) (by omega) (by omega) (by omega) (by rw [c1047, c1024]; rw [c1048, c1025]; rw [c1049, c1026]; rw [c1050, c1027]; rw [c1051, c1028]; rw [c1052, c1029]; rw [c1053, c1030]; rw [c1054, c1031]; rw [c1055, c1032]; rw [c1056, c1033]; omega) (by rw [c1057, c1034]; rw [c1058, c1035]; rw [c1048, c1025]; first | exact f_1 | exact hJ) (by rw [c1059, c1036]; rw [c1060, c1037]; first | exact f_2 | exact hK2) (by rw [c1062, c1038]; rw [c1063, c1039]; rw [c1064, c1040]; rw [c1065, c1041]; exact f_3) (by omega)
                                      · clear h1018
                                        refine sf_sw1 sf_c17 (fun h1067 => ?_) (fun h1067 => ?_)
                                        · refine sf_aload rfl ?_
                                          refine sf_aload rfl ?_
                                          refine sf_iload rfl ?_
                                          refine sf_iconst sf_c1 (fun z1068 ez1068 => ?_)
                                          refine sf_iadd (by omega) (fun v1069 ev1069 => ?_)
                                          refine sf_sldk (x := x4) (k := 1) (by omega) (by omega) (by omega) ?_
                                          clear ev1069 ez1068
                                          refine sf_aload rfl ?_
                                          refine sf_iload rfl ?_
                                          refine sf_iconst sf_c2 (fun z1070 ez1070 => ?_)
                                          refine sf_iadd (by omega) (fun v1071 ev1071 => ?_)
                                          refine sf_sldk (x := x4) (k := 2) (by omega) (by omega) (by omega) ?_
                                          clear ev1071 ez1070
                                          refine sf_aload rfl ?_
                                          refine sf_iload rfl ?_
                                          refine sf_iconst sf_c3 (fun z1072 ez1072 => ?_)
                                          refine sf_iadd (by omega) (fun v1073 ev1073 => ?_)
                                          refine sf_sldk (x := x4) (k := 3) (by omega) (by omega) (by omega) ?_
                                          clear ev1073 ez1072
                                          refine sf_aload rfl ?_
                                          refine sf_iload rfl ?_
                                          refine sf_iconst sf_c4 (fun z1074 ez1074 => ?_)
                                          refine sf_iadd (by omega) (fun v1075 ev1075 => ?_)
                                          refine sf_sldk (x := x4) (k := 4) (by omega) (by omega) (by omega) ?_
                                          clear ev1075 ez1074
                                          refine sf_aload rfl ?_
                                          refine sf_callv6 rfl (by omega) (by omega) ?_
                                          refine sc_W_amend_0_130 I_w  (fun v1076 w1077 Iw1077 tw1077 lv1076 uv1076 => ?_)
                                          have c1079 := sf_mf tw1077 (p := 1) (j := 0) rfl
                                          have c1080 := sf_mf tw1077 (p := 71) (j := 1) rfl
                                          have c1081 := sf_mf tw1077 (p := 1) (j := 5) rfl
                                          have c1082 := sf_mf tw1077 (p := 71) (j := 5) rfl
                                          have c1083 := sf_mf tw1077 (p := 13) (j := 1) rfl
                                          have c1084 := sf_mf tw1077 (p := 71) (j := 10) rfl
                                          have c1085 := sf_mf tw1077 (p := 21) (j := 1) rfl
                                          have c1086 := sf_mf tw1077 (p := 71) (j := 18) rfl
                                          have c1087 := sf_mf tw1077 (p := 35) (j := 0) rfl
                                          have c1088 := sf_mf tw1077 (p := 71) (j := 35) rfl
                                          have c1089 := sf_ma tw1077 (p := 3) rfl
                                          have c1090 := sf_ma tw1077 (p := 72) rfl
                                          have c1091 := sf_mg tw1077 (p := 10) rfl
                                          have c1092 := sf_ma tw1077 (p := 93) rfl
                                          have c1093 := sf_ma tw1077 (p := 34) rfl
                                          have c1094 := sf_ma tw1077 (p := 30) rfl
                                          have c1095 := sf_ma tw1077 (p := 94) rfl
                                          have c1096 := sf_ma tw1077 (p := 95) rfl
                                          refine sf_istore (L' := [(0, .inl (.ref 100000)), (1, .inl (.ref 0)), (2, .inl (.ref 71)), (3, .inl (.ref 130)), (4, .inl (.int x4))]) rfl ?_
                                          refine sf_aload rfl ?_
                                          refine sf_aload rfl ?_
                                          refine sf_iload rfl ?_
                                          refine sf_iconst sf_c1 (fun z1097 ez1097 => ?_)
                                          refine sf_iadd (by omega) (fun v1098 ev1098 => ?_)
                                          refine sf_sldk (x := x4) (k := 1) (by omega) (by omega) (by omega) ?_
                                          clear ev1098 ez1097
                                          refine sf_aload rfl ?_
                                          refine sf_iload rfl ?_
                                          refine sf_iconst sf_c2 (fun z1099 ez1099 => ?_)
                                          refine sf_iadd (by omega) (fun v1100 ev1100 => ?_)
                                          refine sf_sldk (x := x4) (k := 2) (by omega) (by omega) (by omega) ?_
                                          clear ev1100 ez1099
                                          refine sf_aload rfl ?_
                                          refine sf_iload rfl ?_
                                          refine sf_iconst sf_c3 (fun z1101 ez1101 => ?_)
                                          refine sf_iadd (by omega) (fun v1102 ev1102 => ?_)
                                          refine sf_sldk (x := x4) (k := 3) (by omega) (by omega) (by omega) ?_
                                          clear ev1102 ez1101
                                          refine sf_aload rfl ?_
                                          refine sf_iload rfl ?_
                                          refine sf_iconst sf_c4 (fun z1103 ez1103 => ?_)
                                          refine sf_iadd (by omega) (fun v1104 ev1104 => ?_)
                                          refine sf_sldk (x := x4) (k := 4) (by omega) (by omega) (by omega) ?_
                                          clear ev1104 ez1103
                                          refine sf_callv5 rfl (by omega) (by omega) ?_
                                          refine sf_rv Iw1077 rfl ?_
                                          refine sc_M_amend Iw1077  (fun v1105 w1106 Iw1106 tw1106 => ?_)
                                          have c1108 := sf_mf tw1106 (p := 1) (j := 0) rfl
                                          have c1109 := sf_mf tw1106 (p := 71) (j := 1) rfl
                                          have c1110 := sf_mf tw1106 (p := 1) (j := 5) rfl
                                          have c1111 := sf_mf tw1106 (p := 71) (j := 5) rfl
                                          have c1112 := sf_mf tw1106 (p := 13) (j := 1) rfl
                                          have c1113 := sf_mf tw1106 (p := 71) (j := 10) rfl
                                          have c1114 := sf_mf tw1106 (p := 21) (j := 1) rfl
                                          have c1115 := sf_mf tw1106 (p := 71) (j := 18) rfl
                                          have c1116 := sf_mf tw1106 (p := 35) (j := 0) rfl
                                          have c1117 := sf_mf tw1106 (p := 71) (j := 35) rfl
                                          have c1118 := sf_ma tw1106 (p := 3) rfl
                                          have c1119 := sf_ma tw1106 (p := 72) rfl
                                          have c1120 := sf_mg tw1106 (p := 10) rfl
                                          have c1121 := sf_ma tw1106 (p := 93) rfl
                                          have c1122 := sf_mL tw1106 (p := 130) rfl
                                          have c1123 := sf_ma tw1106 (p := 34) rfl
                                          have c1124 := sf_ma tw1106 (p := 30) rfl
                                          have c1125 := sf_ma tw1106 (p := 94) rfl
                                          have c1126 := sf_ma tw1106 (p := 95) rfl
                                          refine sf_lstore (L' := [(5, .inl (.int v1076)), (0, .inl (.ref 100000)), (1, .inl (.ref 0)), (2, .inl (.ref 71)), (3, .inl (.ref 130)), (4, .inl (.int x4))]) rfl ?_
                                          show kt_W_law_1421 N xs K _ _ _ _ _
                                          refine sf_iinc (L' := [(6, .inl (.long v1105)), (5, .inl (.int v1076)), (0, .inl (.ref 100000)), (1, .inl (.ref 0)), (2, .inl (.ref 71)), (3, .inl (.ref 130))]) (x := x4) sf_c8 rfl rfl (by omega) (fun v1127 ev1127 => ?_)
                                          refine sf_can (L' := [(0, .inl (.ref 100000)), (1, .inl (.ref 0)), (2, .inl (.ref 71)), (3, .inl (.ref 130)), (4, .inl (.int v1127))]) rfl ?_
                                          exact ih _ _ _ _ Iw1106 (by omega) (by omega) (by omega) (by omega) (by rw [c1108, c1079]; rw [c1109, c1080]; rw [c1110, c1081]; rw [c1111, c1082]; rw [c1112, c1083]; rw [c1113, c1084]; rw [c1114, c1085]; rw [c1115, c1086]; rw [c1116, c1087]; rw [c1117, c1088]; omega) (by rw [c1118, c1089]; rw [c1119, c1090]; rw [c1109, c1080]; first | exact f_1 | exact hJ) (by rw [c1120, c1091]; rw [c1121, c1092]; first | exact f_2 | exact hK2) (by rw [c1123, c1093]; rw [c1124, c1094]; rw [c1125, c1095]; rw [c1126, c1096]; exact f_3) (by omega)
                                        · clear h1067
                                          refine sf_sw1 sf_c18 (fun h1128 => ?_) (fun h1128 => ?_)
                                          · refine sf_aload rfl ?_
                                            refine sf_aload rfl ?_
                                            refine sf_iload rfl ?_
                                            refine sf_iconst sf_c1 (fun z1129 ez1129 => ?_)
                                            refine sf_iadd (by omega) (fun v1130 ev1130 => ?_)
                                            refine sf_sldk (x := x4) (k := 1) (by omega) (by omega) (by omega) ?_
                                            clear ev1130 ez1129
                                            refine sf_aload rfl ?_
                                            refine sf_iload rfl ?_
                                            refine sf_iconst sf_c2 (fun z1131 ez1131 => ?_)
                                            refine sf_iadd (by omega) (fun v1132 ev1132 => ?_)
                                            refine sf_sldk (x := x4) (k := 2) (by omega) (by omega) (by omega) ?_
                                            clear ev1132 ez1131
                                            refine sf_aload rfl ?_
                                            refine sf_callv4 rfl (by omega) (by omega) ?_
                                            refine sc_W_release_0_130 I_w  (fun v1133 w1134 Iw1134 tw1134 lv1133 uv1133 => ?_)
                                            have c1136 := sf_mf tw1134 (p := 1) (j := 0) rfl
                                            have c1137 := sf_mf tw1134 (p := 71) (j := 1) rfl
                                            have c1138 := sf_mf tw1134 (p := 1) (j := 5) rfl
                                            have c1139 := sf_mf tw1134 (p := 71) (j := 5) rfl
                                            have c1140 := sf_mf tw1134 (p := 13) (j := 1) rfl
                                            have c1141 := sf_mf tw1134 (p := 71) (j := 10) rfl
                                            have c1142 := sf_mf tw1134 (p := 21) (j := 1) rfl
                                            have c1143 := sf_mf tw1134 (p := 71) (j := 18) rfl
                                            have c1144 := sf_mf tw1134 (p := 35) (j := 0) rfl
                                            have c1145 := sf_mf tw1134 (p := 71) (j := 35) rfl
                                            have c1146 := sf_ma tw1134 (p := 3) rfl
                                            have c1147 := sf_ma tw1134 (p := 72) rfl
                                            have c1148 := sf_mg tw1134 (p := 10) rfl
                                            have c1149 := sf_ma tw1134 (p := 93) rfl
                                            have c1150 := sf_ma tw1134 (p := 34) rfl
                                            have c1151 := sf_ma tw1134 (p := 30) rfl
                                            have c1152 := sf_ma tw1134 (p := 94) rfl
                                            have c1153 := sf_ma tw1134 (p := 95) rfl
                                            refine sf_istore (L' := [(0, .inl (.ref 100000)), (1, .inl (.ref 0)), (2, .inl (.ref 71)), (3, .inl (.ref 130)), (4, .inl (.int x4))]) rfl ?_
                                            refine sf_aload rfl ?_
                                            refine sf_aload rfl ?_
                                            refine sf_iload rfl ?_
                                            refine sf_iconst sf_c1 (fun z1154 ez1154 => ?_)
                                            refine sf_iadd (by omega) (fun v1155 ev1155 => ?_)
                                            refine sf_sldk (x := x4) (k := 1) (by omega) (by omega) (by omega) ?_
                                            clear ev1155 ez1154
                                            refine sf_aload rfl ?_
                                            refine sf_iload rfl ?_
                                            refine sf_iconst sf_c2 (fun z1156 ez1156 => ?_)
                                            refine sf_iadd (by omega) (fun v1157 ev1157 => ?_)
                                            refine sf_sldk (x := x4) (k := 2) (by omega) (by omega) (by omega) ?_
                                            clear ev1157 ez1156
                                            refine sf_callv3 rfl (by omega) (by omega) ?_
                                            refine sf_rv Iw1134 rfl ?_
                                            refine sc_M_release Iw1134  (fun v1158 w1159 Iw1159 tw1159 => ?_)
                                            have c1161 := sf_mf tw1159 (p := 1) (j := 0) rfl
                                            have c1162 := sf_mf tw1159 (p := 71) (j := 1) rfl
                                            have c1163 := sf_mf tw1159 (p := 1) (j := 5) rfl
                                            have c1164 := sf_mf tw1159 (p := 71) (j := 5) rfl
                                            have c1165 := sf_mf tw1159 (p := 13) (j := 1) rfl
                                            have c1166 := sf_mf tw1159 (p := 71) (j := 10) rfl
                                            have c1167 := sf_mf tw1159 (p := 21) (j := 1) rfl
                                            have c1168 := sf_mf tw1159 (p := 71) (j := 18) rfl
                                            have c1169 := sf_mf tw1159 (p := 35) (j := 0) rfl
                                            have c1170 := sf_mf tw1159 (p := 71) (j := 35) rfl
                                            have c1171 := sf_ma tw1159 (p := 3) rfl
                                            have c1172 := sf_ma tw1159 (p := 72) rfl
                                            have c1173 := sf_mg tw1159 (p := 10) rfl
                                            have c1174 := sf_ma tw1159 (p := 93) rfl
                                            have c1175 := sf_mL tw1159 (p := 130) rfl
                                            have c1176 := sf_ma tw1159 (p := 34) rfl
                                            have c1177 := sf_ma tw1159 (p := 30) rfl
                                            have c1178 := sf_ma tw1159 (p := 94) rfl
                                            have c1179 := sf_ma tw1159 (p := 95) rfl
                                            refine sf_lstore (L' := [(5, .inl (.int v1133)), (0, .inl (.ref 100000)), (1, .inl (.ref 0)), (2, .inl (.ref 71)), (3, .inl (.ref 130)), (4, .inl (.int x4))]) rfl ?_
                                            show kt_W_law_1421 N xs K _ _ _ _ _
                                            refine sf_iinc (L' := [(6, .inl (.long v1158)), (5, .inl (.int v1133)), (0, .inl (.ref 100000)), (1, .inl (.ref 0)), (2, .inl (.ref 71)), (3, .inl (.ref 130))]) (x := x4) sf_c8 rfl rfl (by omega) (fun v1180 ev1180 => ?_)
                                            refine sf_can (L' := [(0, .inl (.ref 100000)), (1, .inl (.ref 0)), (2, .inl (.ref 71)), (3, .inl (.ref 130)), (4, .inl (.int v1180))]) rfl ?_
                                            exact ih _ _ _ _ Iw1159 (by omega) (by omega) (by omega) (by omega) (by rw [c1161, c1136]; rw [c1162, c1137]; rw [c1163, c1138]; rw [c1164, c1139]; rw [c1165, c1140]; rw [c1166, c1141]; rw [c1167, c1142]; rw [c1168, c1143]; rw [c1169, c1144]; rw [c1170, c1145]; omega) (by rw [c1171, c1146]; rw [c1172, c1147]; rw [c1162, c1137]; first | exact f_1 | exact hJ) (by rw [c1173, c1148]; rw [c1174, c1149]; first | exact f_2 | exact hK2) (by rw [c1176, c1150]; rw [c1177, c1151]; rw [c1178, c1152]; rw [c1179, c1153]; exact f_3) (by omega)
                                          · clear h1128
                                            refine sf_sw1 sf_c19 (fun h1181 => ?_) (fun h1181 => ?_)
                                            · refine sf_aload rfl ?_
                                              refine sf_aload rfl ?_
                                              refine sf_iload rfl ?_
                                              refine sf_iconst sf_c1 (fun z1182 ez1182 => ?_)
                                              refine sf_iadd (by omega) (fun v1183 ev1183 => ?_)
                                              refine sf_sldk (x := x4) (k := 1) (by omega) (by omega) (by omega) ?_
                                              clear ev1183 ez1182
                                              refine sf_aload rfl ?_
                                              refine sf_iload rfl ?_
                                              refine sf_iconst sf_c2 (fun z1184 ez1184 => ?_)
                                              refine sf_iadd (by omega) (fun v1185 ev1185 => ?_)
                                              refine sf_sldk (x := x4) (k := 2) (by omega) (by omega) (by omega) ?_
                                              clear ev1185 ez1184
                                              refine sf_aload rfl ?_
                                              refine sf_callv4 rfl (by omega) (by omega) ?_
                                              refine sc_W_export_0_130 I_w  (fun v1186 w1187 Iw1187 tw1187 lv1186 uv1186 => ?_)
                                              have c1189 := sf_mf tw1187 (p := 1) (j := 0) rfl
                                              have c1190 := sf_mf tw1187 (p := 71) (j := 1) rfl
                                              have c1191 := sf_mf tw1187 (p := 1) (j := 5) rfl
                                              have c1192 := sf_mf tw1187 (p := 71) (j := 5) rfl
                                              have c1193 := sf_mf tw1187 (p := 13) (j := 1) rfl
                                              have c1194 := sf_mf tw1187 (p := 71) (j := 10) rfl
                                              have c1195 := sf_mf tw1187 (p := 21) (j := 1) rfl
                                              have c1196 := sf_mf tw1187 (p := 71) (j := 18) rfl
                                              have c1197 := sf_mf tw1187 (p := 35) (j := 0) rfl
                                              have c1198 := sf_mf tw1187 (p := 71) (j := 35) rfl
                                              have c1199 := sf_ma tw1187 (p := 3) rfl
                                              have c1200 := sf_ma tw1187 (p := 72) rfl
                                              have c1201 := sf_mg tw1187 (p := 10) rfl
                                              have c1202 := sf_ma tw1187 (p := 93) rfl
                                              have c1203 := sf_ma tw1187 (p := 34) rfl
                                              have c1204 := sf_ma tw1187 (p := 30) rfl
                                              have c1205 := sf_ma tw1187 (p := 94) rfl
                                              have c1206 := sf_ma tw1187 (p := 95) rfl
                                              refine sf_istore (L' := [(0, .inl (.ref 100000)), (1, .inl (.ref 0)), (2, .inl (.ref 71)), (3, .inl (.ref 130)), (4, .inl (.int x4))]) rfl ?_
                                              refine sf_aload rfl ?_
                                              refine sf_aload rfl ?_
                                              refine sf_iload rfl ?_
                                              refine sf_iconst sf_c1 (fun z1207 ez1207 => ?_)
                                              refine sf_iadd (by omega) (fun v1208 ev1208 => ?_)
                                              refine sf_sldk (x := x4) (k := 1) (by omega) (by omega) (by omega) ?_
                                              clear ev1208 ez1207
                                              refine sf_aload rfl ?_
                                              refine sf_iload rfl ?_
                                              refine sf_iconst sf_c2 (fun z1209 ez1209 => ?_)
                                              refine sf_iadd (by omega) (fun v1210 ev1210 => ?_)
                                              refine sf_sldk (x := x4) (k := 2) (by omega) (by omega) (by omega) ?_
                                              clear ev1210 ez1209
                                              refine sf_callv3 rfl (by omega) (by omega) ?_
                                              refine sf_rv Iw1187 rfl ?_
                                              refine sc_M_export Iw1187  (fun v1211 w1212 Iw1212 tw1212 => ?_)
                                              have c1214 := sf_mf tw1212 (p := 1) (j := 0) rfl
                                              have c1215 := sf_mf tw1212 (p := 71) (j := 1) rfl
                                              have c1216 := sf_mf tw1212 (p := 1) (j := 5) rfl
                                              have c1217 := sf_mf tw1212 (p := 71) (j := 5) rfl
                                              have c1218 := sf_mf tw1212 (p := 13) (j := 1) rfl
                                              have c1219 := sf_mf tw1212 (p := 71) (j := 10) rfl
                                              have c1220 := sf_mf tw1212 (p := 21) (j := 1) rfl
                                              have c1221 := sf_mf tw1212 (p := 71) (j := 18) rfl
                                              have c1222 := sf_mf tw1212 (p := 35) (j := 0) rfl
                                              have c1223 := sf_mf tw1212 (p := 71) (j := 35) rfl
                                              have c1224 := sf_ma tw1212 (p := 3) rfl
                                              have c1225 := sf_ma tw1212 (p := 72) rfl
                                              have c1226 := sf_mg tw1212 (p := 10) rfl
                                              have c1227 := sf_ma tw1212 (p := 93) rfl
                                              have c1228 := sf_mL tw1212 (p := 130) rfl
                                              have c1229 := sf_ma tw1212 (p := 34) rfl
                                              have c1230 := sf_ma tw1212 (p := 30) rfl
                                              have c1231 := sf_ma tw1212 (p := 94) rfl
                                              have c1232 := sf_ma tw1212 (p := 95) rfl
                                              refine sf_lstore (L' := [(5, .inl (.int v1186)), (0, .inl (.ref 100000)), (1, .inl (.ref 0)), (2, .inl (.ref 71)), (3, .inl (.ref 130)), (4, .inl (.int x4))]) rfl ?_
                                              show kt_W_law_1421 N xs K _ _ _ _ _
                                              refine sf_iinc (L' := [(6, .inl (.long v1211)), (5, .inl (.int v1186)), (0, .inl (.ref 100000)), (1, .inl (.ref 0)), (2, .inl (.ref 71)), (3, .inl (.ref 130))]) (x := x4) sf_c8 rfl rfl (by omega) (fun v1233 ev1233 => ?_)
                                              refine sf_can (L' := [(0, .inl (.ref 100000)), (1, .inl (.ref 0)), (2, .inl (.ref 71)), (3, .inl (.ref 130)), (4, .inl (.int v1233))]) rfl ?_
                                              exact ih _ _ _ _ Iw1212 (by omega) (by omega) (by omega) (by omega) (by rw [c1214, c1189]; rw [c1215, c1190]; rw [c1216, c1191]; rw [c1217, c1192]; rw [c1218, c1193]; rw [c1219, c1194]; rw [c1220, c1195]; rw [c1221, c1196]; rw [c1222, c1197]; rw [c1223, c1198]; omega) (by rw [c1224, c1199]; rw [c1225, c1200]; rw [c1215, c1190]; first | exact f_1 | exact hJ) (by rw [c1226, c1201]; rw [c1227, c1202]; first | exact f_2 | exact hK2) (by rw [c1229, c1203]; rw [c1230, c1204]; rw [c1231, c1205]; rw [c1232, c1206]; exact f_3) (by omega)
                                            · clear h1181
                                              refine sf_sw1 sf_c20 (fun h1234 => ?_) (fun h1234 => ?_)
                                              · refine sf_aload rfl ?_
                                                refine sf_aload rfl ?_
                                                refine sf_iload rfl ?_
                                                refine sf_iconst sf_c1 (fun z1235 ez1235 => ?_)
                                                refine sf_iadd (by omega) (fun v1236 ev1236 => ?_)
                                                refine sf_sldk (x := x4) (k := 1) (by omega) (by omega) (by omega) ?_
                                                clear ev1236 ez1235
                                                refine sf_aload rfl ?_
                                                refine sf_iload rfl ?_
                                                refine sf_iconst sf_c2 (fun z1237 ez1237 => ?_)
                                                refine sf_iadd (by omega) (fun v1238 ev1238 => ?_)
                                                refine sf_sldk (x := x4) (k := 2) (by omega) (by omega) (by omega) ?_
                                                clear ev1238 ez1237
                                                refine sf_aload rfl ?_
                                                refine sf_iload rfl ?_
                                                refine sf_iconst sf_c3 (fun z1239 ez1239 => ?_)
                                                refine sf_iadd (by omega) (fun v1240 ev1240 => ?_)
                                                refine sf_sldk (x := x4) (k := 3) (by omega) (by omega) (by omega) ?_
                                                clear ev1240 ez1239
                                                refine sf_aload rfl ?_
                                                refine sf_iload rfl ?_
                                                refine sf_iconst sf_c4 (fun z1241 ez1241 => ?_)
                                                refine sf_iadd (by omega) (fun v1242 ev1242 => ?_)
                                                refine sf_sldk (x := x4) (k := 4) (by omega) (by omega) (by omega) ?_
                                                clear ev1242 ez1241
                                                refine sf_aload rfl ?_
                                                refine sf_callv6 rfl (by omega) (by omega) ?_
                                                refine sc_W_work_0_130 I_w  (fun v1243 w1244 Iw1244 tw1244 lv1243 uv1243 => ?_)
                                                have c1246 := sf_mf tw1244 (p := 1) (j := 0) rfl
                                                have c1247 := sf_mf tw1244 (p := 71) (j := 1) rfl
                                                have c1248 := sf_mf tw1244 (p := 1) (j := 5) rfl
                                                have c1249 := sf_mf tw1244 (p := 71) (j := 5) rfl
                                                have c1250 := sf_mf tw1244 (p := 13) (j := 1) rfl
                                                have c1251 := sf_mf tw1244 (p := 71) (j := 10) rfl
                                                have c1252 := sf_mf tw1244 (p := 21) (j := 1) rfl
                                                have c1253 := sf_mf tw1244 (p := 71) (j := 18) rfl
                                                have c1254 := sf_mf tw1244 (p := 35) (j := 0) rfl
                                                have c1255 := sf_mf tw1244 (p := 71) (j := 35) rfl
                                                have c1256 := sf_ma tw1244 (p := 3) rfl
                                                have c1257 := sf_ma tw1244 (p := 72) rfl
                                                have c1258 := sf_mg tw1244 (p := 10) rfl
                                                have c1259 := sf_ma tw1244 (p := 93) rfl
                                                have c1260 := sf_ma tw1244 (p := 34) rfl
                                                have c1261 := sf_ma tw1244 (p := 30) rfl
                                                have c1262 := sf_ma tw1244 (p := 94) rfl
                                                have c1263 := sf_ma tw1244 (p := 95) rfl
                                                refine sf_istore (L' := [(0, .inl (.ref 100000)), (1, .inl (.ref 0)), (2, .inl (.ref 71)), (3, .inl (.ref 130)), (4, .inl (.int x4))]) rfl ?_
                                                refine sf_aload rfl ?_
                                                refine sf_aload rfl ?_
                                                refine sf_iload rfl ?_
                                                refine sf_iconst sf_c1 (fun z1264 ez1264 => ?_)
                                                refine sf_iadd (by omega) (fun v1265 ev1265 => ?_)
                                                refine sf_sldk (x := x4) (k := 1) (by omega) (by omega) (by omega) ?_
                                                clear ev1265 ez1264
                                                refine sf_aload rfl ?_
                                                refine sf_iload rfl ?_
                                                refine sf_iconst sf_c2 (fun z1266 ez1266 => ?_)
                                                refine sf_iadd (by omega) (fun v1267 ev1267 => ?_)
                                                refine sf_sldk (x := x4) (k := 2) (by omega) (by omega) (by omega) ?_
                                                clear ev1267 ez1266
                                                refine sf_aload rfl ?_
                                                refine sf_iload rfl ?_
                                                refine sf_iconst sf_c3 (fun z1268 ez1268 => ?_)
                                                refine sf_iadd (by omega) (fun v1269 ev1269 => ?_)
                                                refine sf_sldk (x := x4) (k := 3) (by omega) (by omega) (by omega) ?_
                                                clear ev1269 ez1268
                                                refine sf_aload rfl ?_
                                                refine sf_iload rfl ?_
                                                refine sf_iconst sf_c4 (fun z1270 ez1270 => ?_)
                                                refine sf_iadd (by omega) (fun v1271 ev1271 => ?_)
                                                refine sf_sldk (x := x4) (k := 4) (by omega) (by omega) (by omega) ?_
                                                clear ev1271 ez1270
                                                refine sf_callv5 rfl (by omega) (by omega) ?_
                                                refine sf_rv Iw1244 rfl ?_
                                                refine sc_M_work Iw1244  (fun v1272 w1273 Iw1273 tw1273 lv1272 uv1272 => ?_)
                                                have c1275 := sf_mf tw1273 (p := 1) (j := 0) rfl
                                                have c1276 := sf_mf tw1273 (p := 71) (j := 1) rfl
                                                have c1277 := sf_mf tw1273 (p := 1) (j := 5) rfl
                                                have c1278 := sf_mf tw1273 (p := 71) (j := 5) rfl
                                                have c1279 := sf_mf tw1273 (p := 13) (j := 1) rfl
                                                have c1280 := sf_mf tw1273 (p := 71) (j := 10) rfl
                                                have c1281 := sf_mf tw1273 (p := 21) (j := 1) rfl
                                                have c1282 := sf_mf tw1273 (p := 71) (j := 18) rfl
                                                have c1283 := sf_mf tw1273 (p := 35) (j := 0) rfl
                                                have c1284 := sf_mf tw1273 (p := 71) (j := 35) rfl
                                                have c1285 := sf_ma tw1273 (p := 3) rfl
                                                have c1286 := sf_ma tw1273 (p := 72) rfl
                                                have c1287 := sf_mg tw1273 (p := 10) rfl
                                                have c1288 := sf_ma tw1273 (p := 93) rfl
                                                have c1289 := sf_mL tw1273 (p := 130) rfl
                                                have c1290 := sf_ma tw1273 (p := 34) rfl
                                                have c1291 := sf_ma tw1273 (p := 30) rfl
                                                have c1292 := sf_ma tw1273 (p := 94) rfl
                                                have c1293 := sf_ma tw1273 (p := 95) rfl
                                                refine sf_istore (L' := [(5, .inl (.int v1243)), (0, .inl (.ref 100000)), (1, .inl (.ref 0)), (2, .inl (.ref 71)), (3, .inl (.ref 130)), (4, .inl (.int x4))]) rfl ?_
                                                show kt_W_law_1421 N xs K _ _ _ _ _
                                                refine sf_iinc (L' := [(6, .inl (.int v1272)), (5, .inl (.int v1243)), (0, .inl (.ref 100000)), (1, .inl (.ref 0)), (2, .inl (.ref 71)), (3, .inl (.ref 130))]) (x := x4) sf_c8 rfl rfl (by omega) (fun v1294 ev1294 => ?_)
                                                refine sf_can (L' := [(0, .inl (.ref 100000)), (1, .inl (.ref 0)), (2, .inl (.ref 71)), (3, .inl (.ref 130)), (4, .inl (.int v1294))]) rfl ?_
                                                exact ih _ _ _ _ Iw1273 (by omega) (by omega) (by omega) (by omega) (by rw [c1275, c1246]; rw [c1276, c1247]; rw [c1277, c1248]; rw [c1278, c1249]; rw [c1279, c1250]; rw [c1280, c1251]; rw [c1281, c1252]; rw [c1282, c1253]; rw [c1283, c1254]; rw [c1284, c1255]; omega) (by rw [c1285, c1256]; rw [c1286, c1257]; rw [c1276, c1247]; first | exact f_1 | exact hJ) (by rw [c1287, c1258]; rw [c1288, c1259]; first | exact f_2 | exact hK2) (by rw [c1290, c1260]; rw [c1291, c1261]; rw [c1292, c1262]; rw [c1293, c1263]; exact f_3) (by omega)
                                              · clear h1234
                                                refine sf_sw1 sf_c21 (fun h1295 => ?_) (fun h1295 => ?_)
                                                · refine sf_aload rfl ?_
                                                  refine sf_aload rfl ?_
                                                  refine sf_iload rfl ?_
                                                  refine sf_iconst sf_c1 (fun z1296 ez1296 => ?_)
                                                  refine sf_iadd (by omega) (fun v1297 ev1297 => ?_)
                                                  refine sf_sldk (x := x4) (k := 1) (by omega) (by omega) (by omega) ?_
                                                  clear ev1297 ez1296
                                                  refine sf_aload rfl ?_
                                                  refine sf_iload rfl ?_
                                                  refine sf_iconst sf_c2 (fun z1298 ez1298 => ?_)
                                                  refine sf_iadd (by omega) (fun v1299 ev1299 => ?_)
                                                  refine sf_sldk (x := x4) (k := 2) (by omega) (by omega) (by omega) ?_
                                                  clear ev1299 ez1298
                                                  refine sf_aload rfl ?_
                                                  refine sf_callv4 rfl (by omega) (by omega) ?_
                                                  refine sc_W_lot_0_130 I_w  (fun v1300 w1301 Iw1301 tw1301 lv1300 uv1300 => ?_)
                                                  have c1303 := sf_mf tw1301 (p := 1) (j := 0) rfl
                                                  have c1304 := sf_mf tw1301 (p := 71) (j := 1) rfl
                                                  have c1305 := sf_mf tw1301 (p := 1) (j := 5) rfl
                                                  have c1306 := sf_mf tw1301 (p := 71) (j := 5) rfl
                                                  have c1307 := sf_mf tw1301 (p := 13) (j := 1) rfl
                                                  have c1308 := sf_mf tw1301 (p := 71) (j := 10) rfl
                                                  have c1309 := sf_mf tw1301 (p := 21) (j := 1) rfl
                                                  have c1310 := sf_mf tw1301 (p := 71) (j := 18) rfl
                                                  have c1311 := sf_mf tw1301 (p := 35) (j := 0) rfl
                                                  have c1312 := sf_mf tw1301 (p := 71) (j := 35) rfl
                                                  have c1313 := sf_ma tw1301 (p := 3) rfl
                                                  have c1314 := sf_ma tw1301 (p := 72) rfl
                                                  have c1315 := sf_mg tw1301 (p := 10) rfl
                                                  have c1316 := sf_ma tw1301 (p := 93) rfl
                                                  have c1317 := sf_ma tw1301 (p := 34) rfl
                                                  have c1318 := sf_ma tw1301 (p := 30) rfl
                                                  have c1319 := sf_ma tw1301 (p := 94) rfl
                                                  have c1320 := sf_ma tw1301 (p := 95) rfl
                                                  refine sf_istore (L' := [(0, .inl (.ref 100000)), (1, .inl (.ref 0)), (2, .inl (.ref 71)), (3, .inl (.ref 130)), (4, .inl (.int x4))]) rfl ?_
                                                  refine sf_aload rfl ?_
                                                  refine sf_aload rfl ?_
                                                  refine sf_iload rfl ?_
                                                  refine sf_iconst sf_c1 (fun z1321 ez1321 => ?_)
                                                  refine sf_iadd (by omega) (fun v1322 ev1322 => ?_)
                                                  refine sf_sldk (x := x4) (k := 1) (by omega) (by omega) (by omega) ?_
                                                  clear ev1322 ez1321
                                                  refine sf_aload rfl ?_
                                                  refine sf_iload rfl ?_
                                                  refine sf_iconst sf_c2 (fun z1323 ez1323 => ?_)
                                                  refine sf_iadd (by omega) (fun v1324 ev1324 => ?_)
                                                  refine sf_sldk (x := x4) (k := 2) (by omega) (by omega) (by omega) ?_
                                                  clear ev1324 ez1323
                                                  refine sf_callv3 rfl (by omega) (by omega) ?_
                                                  refine sf_rv Iw1301 rfl ?_
                                                  refine sc_M_lot Iw1301  (fun v1325 w1326 Iw1326 tw1326 => ?_)
                                                  have c1328 := sf_mf tw1326 (p := 1) (j := 0) rfl
                                                  have c1329 := sf_mf tw1326 (p := 71) (j := 1) rfl
                                                  have c1330 := sf_mf tw1326 (p := 1) (j := 5) rfl
                                                  have c1331 := sf_mf tw1326 (p := 71) (j := 5) rfl
                                                  have c1332 := sf_mf tw1326 (p := 13) (j := 1) rfl
                                                  have c1333 := sf_mf tw1326 (p := 71) (j := 10) rfl
                                                  have c1334 := sf_mf tw1326 (p := 21) (j := 1) rfl
                                                  have c1335 := sf_mf tw1326 (p := 71) (j := 18) rfl
                                                  have c1336 := sf_mf tw1326 (p := 35) (j := 0) rfl
                                                  have c1337 := sf_mf tw1326 (p := 71) (j := 35) rfl
                                                  have c1338 := sf_ma tw1326 (p := 3) rfl
                                                  have c1339 := sf_ma tw1326 (p := 72) rfl
                                                  have c1340 := sf_mg tw1326 (p := 10) rfl
                                                  have c1341 := sf_ma tw1326 (p := 93) rfl
                                                  have c1342 := sf_mL tw1326 (p := 130) rfl
                                                  have c1343 := sf_ma tw1326 (p := 34) rfl
                                                  have c1344 := sf_ma tw1326 (p := 30) rfl
                                                  have c1345 := sf_ma tw1326 (p := 94) rfl
                                                  have c1346 := sf_ma tw1326 (p := 95) rfl
                                                  refine sf_lstore (L' := [(5, .inl (.int v1300)), (0, .inl (.ref 100000)), (1, .inl (.ref 0)), (2, .inl (.ref 71)), (3, .inl (.ref 130)), (4, .inl (.int x4))]) rfl ?_
                                                  show kt_W_law_1421 N xs K _ _ _ _ _
                                                  refine sf_iinc (L' := [(6, .inl (.long v1325)), (5, .inl (.int v1300)), (0, .inl (.ref 100000)), (1, .inl (.ref 0)), (2, .inl (.ref 71)), (3, .inl (.ref 130))]) (x := x4) sf_c8 rfl rfl (by omega) (fun v1347 ev1347 => ?_)
                                                  refine sf_can (L' := [(0, .inl (.ref 100000)), (1, .inl (.ref 0)), (2, .inl (.ref 71)), (3, .inl (.ref 130)), (4, .inl (.int v1347))]) rfl ?_
                                                  exact ih _ _ _ _ Iw1326 (by omega) (by omega) (by omega) (by omega) (by rw [c1328, c1303]; rw [c1329, c1304]; rw [c1330, c1305]; rw [c1331, c1306]; rw [c1332, c1307]; rw [c1333, c1308]; rw [c1334, c1309]; rw [c1335, c1310]; rw [c1336, c1311]; rw [c1337, c1312]; omega) (by rw [c1338, c1313]; rw [c1339, c1314]; rw [c1329, c1304]; first | exact f_1 | exact hJ) (by rw [c1340, c1315]; rw [c1341, c1316]; first | exact f_2 | exact hK2) (by rw [c1343, c1317]; rw [c1344, c1318]; rw [c1345, c1319]; rw [c1346, c1320]; exact f_3) (by omega)
                                                · clear h1295
                                                  refine sf_sw1 sf_c22 (fun h1348 => ?_) (fun h1348 => ?_)
                                                  · refine sf_aload rfl ?_
                                                    refine sf_aload rfl ?_
                                                    refine sf_iload rfl ?_
                                                    refine sf_iconst sf_c1 (fun z1349 ez1349 => ?_)
                                                    refine sf_iadd (by omega) (fun v1350 ev1350 => ?_)
                                                    refine sf_sldk (x := x4) (k := 1) (by omega) (by omega) (by omega) ?_
                                                    clear ev1350 ez1349
                                                    refine sf_aload rfl ?_
                                                    refine sf_iload rfl ?_
                                                    refine sf_iconst sf_c2 (fun z1351 ez1351 => ?_)
                                                    refine sf_iadd (by omega) (fun v1352 ev1352 => ?_)
                                                    refine sf_sldk (x := x4) (k := 2) (by omega) (by omega) (by omega) ?_
                                                    clear ev1352 ez1351
                                                    refine sf_aload rfl ?_
                                                    refine sf_callv4 rfl (by omega) (by omega) ?_
                                                    refine sc_W_account_0_130 I_w  (fun v1353 w1354 Iw1354 tw1354 lv1353 uv1353 => ?_)
                                                    have c1356 := sf_mf tw1354 (p := 1) (j := 0) rfl
                                                    have c1357 := sf_mf tw1354 (p := 71) (j := 1) rfl
                                                    have c1358 := sf_mf tw1354 (p := 1) (j := 5) rfl
                                                    have c1359 := sf_mf tw1354 (p := 71) (j := 5) rfl
                                                    have c1360 := sf_mf tw1354 (p := 13) (j := 1) rfl
                                                    have c1361 := sf_mf tw1354 (p := 71) (j := 10) rfl
                                                    have c1362 := sf_mf tw1354 (p := 21) (j := 1) rfl
                                                    have c1363 := sf_mf tw1354 (p := 71) (j := 18) rfl
                                                    have c1364 := sf_mf tw1354 (p := 35) (j := 0) rfl
                                                    have c1365 := sf_mf tw1354 (p := 71) (j := 35) rfl
                                                    have c1366 := sf_ma tw1354 (p := 3) rfl
                                                    have c1367 := sf_ma tw1354 (p := 72) rfl
                                                    have c1368 := sf_mg tw1354 (p := 10) rfl
                                                    have c1369 := sf_ma tw1354 (p := 93) rfl
                                                    have c1370 := sf_ma tw1354 (p := 34) rfl
                                                    have c1371 := sf_ma tw1354 (p := 30) rfl
                                                    have c1372 := sf_ma tw1354 (p := 94) rfl
                                                    have c1373 := sf_ma tw1354 (p := 95) rfl
                                                    refine sf_istore (L' := [(0, .inl (.ref 100000)), (1, .inl (.ref 0)), (2, .inl (.ref 71)), (3, .inl (.ref 130)), (4, .inl (.int x4))]) rfl ?_
                                                    refine sf_aload rfl ?_
                                                    refine sf_aload rfl ?_
                                                    refine sf_iload rfl ?_
                                                    refine sf_iconst sf_c1 (fun z1374 ez1374 => ?_)
                                                    refine sf_iadd (by omega) (fun v1375 ev1375 => ?_)
                                                    refine sf_sldk (x := x4) (k := 1) (by omega) (by omega) (by omega) ?_
                                                    clear ev1375 ez1374
                                                    refine sf_aload rfl ?_
                                                    refine sf_iload rfl ?_
                                                    refine sf_iconst sf_c2 (fun z1376 ez1376 => ?_)
                                                    refine sf_iadd (by omega) (fun v1377 ev1377 => ?_)
                                                    refine sf_sldk (x := x4) (k := 2) (by omega) (by omega) (by omega) ?_
                                                    clear ev1377 ez1376
                                                    refine sf_callv3 rfl (by omega) (by omega) ?_
                                                    refine sf_rv Iw1354 rfl ?_
                                                    refine sc_M_account Iw1354  (fun v1378 w1379 Iw1379 tw1379 => ?_)
                                                    have c1381 := sf_mf tw1379 (p := 1) (j := 0) rfl
                                                    have c1382 := sf_mf tw1379 (p := 71) (j := 1) rfl
                                                    have c1383 := sf_mf tw1379 (p := 1) (j := 5) rfl
                                                    have c1384 := sf_mf tw1379 (p := 71) (j := 5) rfl
                                                    have c1385 := sf_mf tw1379 (p := 13) (j := 1) rfl
                                                    have c1386 := sf_mf tw1379 (p := 71) (j := 10) rfl
                                                    have c1387 := sf_mf tw1379 (p := 21) (j := 1) rfl
                                                    have c1388 := sf_mf tw1379 (p := 71) (j := 18) rfl
                                                    have c1389 := sf_mf tw1379 (p := 35) (j := 0) rfl
                                                    have c1390 := sf_mf tw1379 (p := 71) (j := 35) rfl
                                                    have c1391 := sf_ma tw1379 (p := 3) rfl
                                                    have c1392 := sf_ma tw1379 (p := 72) rfl
                                                    have c1393 := sf_mg tw1379 (p := 10) rfl
                                                    have c1394 := sf_ma tw1379 (p := 93) rfl
                                                    have c1395 := sf_mL tw1379 (p := 130) rfl
                                                    have c1396 := sf_ma tw1379 (p := 34) rfl
                                                    have c1397 := sf_ma tw1379 (p := 30) rfl
                                                    have c1398 := sf_ma tw1379 (p := 94) rfl
                                                    have c1399 := sf_ma tw1379 (p := 95) rfl
                                                    refine sf_lstore (L' := [(5, .inl (.int v1353)), (0, .inl (.ref 100000)), (1, .inl (.ref 0)), (2, .inl (.ref 71)), (3, .inl (.ref 130)), (4, .inl (.int x4))]) rfl ?_
                                                    show kt_W_law_1421 N xs K _ _ _ _ _
                                                    refine sf_iinc (L' := [(6, .inl (.long v1378)), (5, .inl (.int v1353)), (0, .inl (.ref 100000)), (1, .inl (.ref 0)), (2, .inl (.ref 71)), (3, .inl (.ref 130))]) (x := x4) sf_c8 rfl rfl (by omega) (fun v1400 ev1400 => ?_)
                                                    refine sf_can (L' := [(0, .inl (.ref 100000)), (1, .inl (.ref 0)), (2, .inl (.ref 71)), (3, .inl (.ref 130)), (4, .inl (.int v1400))]) rfl ?_
                                                    exact ih _ _ _ _ Iw1379 (by omega) (by omega) (by omega) (by omega) (by rw [c1381, c1356]; rw [c1382, c1357]; rw [c1383, c1358]; rw [c1384, c1359]; rw [c1385, c1360]; rw [c1386, c1361]; rw [c1387, c1362]; rw [c1388, c1363]; rw [c1389, c1364]; rw [c1390, c1365]; omega) (by rw [c1391, c1366]; rw [c1392, c1367]; rw [c1382, c1357]; first | exact f_1 | exact hJ) (by rw [c1393, c1368]; rw [c1394, c1369]; first | exact f_2 | exact hK2) (by rw [c1396, c1370]; rw [c1397, c1371]; rw [c1398, c1372]; rw [c1399, c1373]; exact f_3) (by omega)
                                                  · clear h1348
                                                    refine sf_sw1 sf_c23 (fun h1401 => ?_) (fun h1401 => ?_)
                                                    · refine sf_aload rfl ?_
                                                      refine sf_aload rfl ?_
                                                      refine sf_iload rfl ?_
                                                      refine sf_iconst sf_c1 (fun z1402 ez1402 => ?_)
                                                      refine sf_iadd (by omega) (fun v1403 ev1403 => ?_)
                                                      refine sf_sldk (x := x4) (k := 1) (by omega) (by omega) (by omega) ?_
                                                      clear ev1403 ez1402
                                                      refine sf_aload rfl ?_
                                                      refine sf_callv3 rfl (by omega) (by omega) ?_
                                                      refine sc_W_books_0_130 I_w  (fun v1404 w1405 Iw1405 tw1405 lv1404 uv1404 => ?_)
                                                      have c1407 := sf_mf tw1405 (p := 1) (j := 0) rfl
                                                      have c1408 := sf_mf tw1405 (p := 71) (j := 1) rfl
                                                      have c1409 := sf_mf tw1405 (p := 1) (j := 5) rfl
                                                      have c1410 := sf_mf tw1405 (p := 71) (j := 5) rfl
                                                      have c1411 := sf_mf tw1405 (p := 13) (j := 1) rfl
                                                      have c1412 := sf_mf tw1405 (p := 71) (j := 10) rfl
                                                      have c1413 := sf_mf tw1405 (p := 21) (j := 1) rfl
                                                      have c1414 := sf_mf tw1405 (p := 71) (j := 18) rfl
                                                      have c1415 := sf_mf tw1405 (p := 35) (j := 0) rfl
                                                      have c1416 := sf_mf tw1405 (p := 71) (j := 35) rfl
                                                      have c1417 := sf_ma tw1405 (p := 3) rfl
                                                      have c1418 := sf_ma tw1405 (p := 72) rfl
                                                      have c1419 := sf_mg tw1405 (p := 10) rfl
                                                      have c1420 := sf_ma tw1405 (p := 93) rfl
                                                      have c1421 := sf_ma tw1405 (p := 34) rfl
                                                      have c1422 := sf_ma tw1405 (p := 30) rfl
                                                      have c1423 := sf_ma tw1405 (p := 94) rfl
                                                      have c1424 := sf_ma tw1405 (p := 95) rfl
                                                      refine sf_istore (L' := [(0, .inl (.ref 100000)), (1, .inl (.ref 0)), (2, .inl (.ref 71)), (3, .inl (.ref 130)), (4, .inl (.int x4))]) rfl ?_
                                                      refine sf_aload rfl ?_
                                                      refine sf_aload rfl ?_
                                                      refine sf_iload rfl ?_
                                                      refine sf_iconst sf_c1 (fun z1425 ez1425 => ?_)
                                                      refine sf_iadd (by omega) (fun v1426 ev1426 => ?_)
                                                      refine sf_sldk (x := x4) (k := 1) (by omega) (by omega) (by omega) ?_
                                                      clear ev1426 ez1425
                                                      refine sf_callv2 rfl (by omega) (by omega) ?_
                                                      refine sf_rv Iw1405 rfl ?_
                                                      refine sc_M_books Iw1405  (fun v1427 w1428 Iw1428 tw1428 => ?_)
                                                      have c1430 := sf_mf tw1428 (p := 1) (j := 0) rfl
                                                      have c1431 := sf_mf tw1428 (p := 71) (j := 1) rfl
                                                      have c1432 := sf_mf tw1428 (p := 1) (j := 5) rfl
                                                      have c1433 := sf_mf tw1428 (p := 71) (j := 5) rfl
                                                      have c1434 := sf_mf tw1428 (p := 13) (j := 1) rfl
                                                      have c1435 := sf_mf tw1428 (p := 71) (j := 10) rfl
                                                      have c1436 := sf_mf tw1428 (p := 21) (j := 1) rfl
                                                      have c1437 := sf_mf tw1428 (p := 71) (j := 18) rfl
                                                      have c1438 := sf_mf tw1428 (p := 35) (j := 0) rfl
                                                      have c1439 := sf_mf tw1428 (p := 71) (j := 35) rfl
                                                      have c1440 := sf_ma tw1428 (p := 3) rfl
                                                      have c1441 := sf_ma tw1428 (p := 72) rfl
                                                      have c1442 := sf_mg tw1428 (p := 10) rfl
                                                      have c1443 := sf_ma tw1428 (p := 93) rfl
                                                      have c1444 := sf_mL tw1428 (p := 130) rfl
                                                      have c1445 := sf_ma tw1428 (p := 34) rfl
                                                      have c1446 := sf_ma tw1428 (p := 30) rfl
                                                      have c1447 := sf_ma tw1428 (p := 94) rfl
                                                      have c1448 := sf_ma tw1428 (p := 95) rfl
                                                      refine sf_lstore (L' := [(5, .inl (.int v1404)), (0, .inl (.ref 100000)), (1, .inl (.ref 0)), (2, .inl (.ref 71)), (3, .inl (.ref 130)), (4, .inl (.int x4))]) rfl ?_
                                                      show kt_W_law_1421 N xs K _ _ _ _ _
                                                      refine sf_iinc (L' := [(6, .inl (.long v1427)), (5, .inl (.int v1404)), (0, .inl (.ref 100000)), (1, .inl (.ref 0)), (2, .inl (.ref 71)), (3, .inl (.ref 130))]) (x := x4) sf_c8 rfl rfl (by omega) (fun v1449 ev1449 => ?_)
                                                      refine sf_can (L' := [(0, .inl (.ref 100000)), (1, .inl (.ref 0)), (2, .inl (.ref 71)), (3, .inl (.ref 130)), (4, .inl (.int v1449))]) rfl ?_
                                                      exact ih _ _ _ _ Iw1428 (by omega) (by omega) (by omega) (by omega) (by rw [c1430, c1407]; rw [c1431, c1408]; rw [c1432, c1409]; rw [c1433, c1410]; rw [c1434, c1411]; rw [c1435, c1412]; rw [c1436, c1413]; rw [c1437, c1414]; rw [c1438, c1415]; rw [c1439, c1416]; omega) (by rw [c1440, c1417]; rw [c1441, c1418]; rw [c1431, c1408]; first | exact f_1 | exact hJ) (by rw [c1442, c1419]; rw [c1443, c1420]; first | exact f_2 | exact hK2) (by rw [c1445, c1421]; rw [c1446, c1422]; rw [c1447, c1423]; rw [c1448, c1424]; exact f_3) (by omega)
                                                    · clear h1401
                                                      refine sf_sw0 ?_
                                                      refine sf_iinc (L' := [(0, .inl (.ref 100000)), (1, .inl (.ref 0)), (2, .inl (.ref 71)), (3, .inl (.ref 130))]) (x := x4) sf_c8 rfl rfl (by omega) (fun v1450 ev1450 => ?_)
                                                      refine sf_can (L' := [(0, .inl (.ref 100000)), (1, .inl (.ref 0)), (2, .inl (.ref 71)), (3, .inl (.ref 130)), (4, .inl (.int v1450))]) rfl ?_
                                                      exact ih _ _ _ _ I_w (by omega) (by omega) (by omega) (by omega) (by omega) (by first | exact f_1 | exact hJ) (by first | exact f_2 | exact hK2) (by exact f_3) (by omega)
