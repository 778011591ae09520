set_option maxRecDepth 100000 in
set_option maxHeartbeats 40000000 in
theorem sc_law (N : Nat) (hN : N ≤ 4096) (xs : Nat → Int32) : ∀ n : Nat, ∀ (w : wq_W) (x4 : Int32) (a b : Nat), sf_I w → 0 ≤ x4.toInt → x4.toInt ≤ (N : Int) → (a : Int) ≤ 207 + 100 * x4.toInt → (b : Int) ≤ 4018 + 600 * x4.toInt → ((sf_f w 1 0).toInt = (sf_f w 71 1).toInt ∧ (sf_f w 1 5).toInt = (sf_f w 71 5).toInt ∧ (sf_f w 13 1).toInt = (sf_f w 71 10).toInt ∧ (sf_f w 21 1).toInt = (sf_f w 71 18).toInt ∧ (sf_f w 35 0).toInt = (sf_f w 71 35).toInt) → (sf_J (sf_a w 3) (sf_a w 72) (sf_f w 71 1).toInt) → (sf_K (sf_g w 10) (sf_a w 93)) → (N : Int) - x4.toInt < (n : Int) → ku_W_law N xs n 23 [(0, .inl (.ref 100000)), (1, .inl (.ref 0)), (2, .inl (.ref 71)), (3, .inl (.ref 130)), (4, .inl (.int x4))] [] w a b := by
  intro n
  induction n with
  | zero => intros; omega
  | succ n ih =>
    intro w x4 a b I_w l_x4 u_x4 ha hb f_0 f_1 f_2 hm
    show kh_W_law_23 N xs (ku_W_law N xs n) [(0, .inl (.ref 100000)), (1, .inl (.ref 0)), (2, .inl (.ref 71)), (3, .inl (.ref 130)), (4, .inl (.int x4))] [] w a b
    generalize ku_W_law N xs n = K at ih ⊢
    have hs : sf_m [] w w := sf_m0
    refine sf_iload rfl ?_
    refine sf_aload rfl ?_
    refine sf_slen hN (fun z1 ez1 => ?_)
    refine sf_iconst sf_c8 (fun z2 ez2 => ?_)
    refine sf_isub (by omega) (fun v3 ev3 => ?_)
    refine sf_f2_gt (fun h4 => ?_) (fun h4 => ?_)
    · refine sf_iconst sf_c1 (fun z5 ez5 => ?_)
      exact sf_lend (by omega) (by omega) (by omega)
    · refine sf_aload rfl ?_
      refine sf_iload rfl ?_
      refine sf_sld (by omega) (fun v6 => ?_)
      refine sf_iconst sf_c31 (fun z7 ez7 => ?_)
      refine sf_iand (n := 31) (by omega) (by decide) (fun v8 lv8 uv8 => ?_)
      refine sf_sw1 sf_c0 (fun h9 => ?_) (fun h9 => ?_)
      · refine sf_aload rfl ?_
        refine sf_aload rfl ?_
        refine sf_iload rfl ?_
        refine sf_iconst sf_c1 (fun z10 ez10 => ?_)
        refine sf_iadd (by omega) (fun v11 ev11 => ?_)
        refine sf_sldk (x := x4) (k := 1) (by omega) (by omega) (by omega) ?_
        clear ev11 ez10
        refine sf_aload rfl ?_
        refine sf_callv3 rfl (by omega) (by omega) ?_
        refine sc_W_heading_0_130 I_w  (fun v12 w13 Iw13 tw13 lv12 uv12 q14_0 q14_1 => ?_)
        have c15 := sf_mf tw13 (p := 71) (j := 1) rfl
        have c16 := sf_mf tw13 (p := 1) (j := 5) rfl
        have c17 := sf_mf tw13 (p := 71) (j := 5) rfl
        have c18 := sf_mf tw13 (p := 13) (j := 1) rfl
        have c19 := sf_mf tw13 (p := 71) (j := 10) rfl
        have c20 := sf_mf tw13 (p := 21) (j := 1) rfl
        have c21 := sf_mf tw13 (p := 71) (j := 18) rfl
        have c22 := sf_mf tw13 (p := 35) (j := 0) rfl
        have c23 := sf_mf tw13 (p := 71) (j := 35) rfl
        have c24 := sf_ma tw13 (p := 72) rfl
        have c25 := sf_mg tw13 (p := 10) rfl
        have c26 := sf_ma tw13 (p := 93) rfl
        have F1 := q14_0
        have F2 := q14_1
        clear q14_0 q14_1
        have hHD : (sf_f w 1 0).toInt = (sf_f w 71 1).toInt := by omega
        rw [hHD] at F2
        refine sf_istore (L' := [(0, .inl (.ref 100000)), (1, .inl (.ref 0)), (2, .inl (.ref 71)), (3, .inl (.ref 130)), (4, .inl (.int x4))]) rfl ?_
        refine sf_aload rfl ?_
        refine sf_aload rfl ?_
        refine sf_iload rfl ?_
        refine sf_iconst sf_c1 (fun z27 ez27 => ?_)
        refine sf_iadd (by omega) (fun v28 ev28 => ?_)
        refine sf_sldk (x := x4) (k := 1) (by omega) (by omega) (by omega) ?_
        clear ev28 ez27
        refine sf_callv2 rfl (by omega) (by omega) ?_
        refine sf_rv Iw13 rfl ?_
        refine sc_M_heading Iw13 (by rw [c24]; rw [c15]; exact sf_J3 f_1 F2) (fun v29 w30 Iw30 tw30 lv29 uv29 q31_0 q31_1 => ?_)
        rw [c15] at q31_0
        rw [c24] at q31_1
        rw [c15] at q31_1
        have c32 := sf_mf tw30 (p := 1) (j := 0) rfl
        have c33 := sf_mf tw30 (p := 1) (j := 5) rfl
        have c34 := sf_mf tw30 (p := 71) (j := 5) rfl
        have c35 := sf_mf tw30 (p := 13) (j := 1) rfl
        have c36 := sf_mf tw30 (p := 71) (j := 10) rfl
        have c37 := sf_mf tw30 (p := 21) (j := 1) rfl
        have c38 := sf_mf tw30 (p := 71) (j := 18) rfl
        have c39 := sf_mf tw30 (p := 35) (j := 0) rfl
        have c40 := sf_mf tw30 (p := 71) (j := 35) rfl
        have c41 := sf_ma tw30 (p := 3) rfl
        have c42 := sf_mg tw30 (p := 10) rfl
        have c43 := sf_ma tw30 (p := 93) rfl
        have c44 := sf_mL tw30 (p := 130) rfl
        have G1 := q31_0
        have G2 := q31_1
        clear q31_0 q31_1
        have h00 := sf_hd I_w
        have hd3 : 0 ≤ (xs (x4.toInt.toNat + 1)).toInt → (xs (x4.toInt.toNat + 1)).toInt < (sf_f w 71 1).toInt → (sf_a w13 3 (xs (x4.toInt.toNat + 1)).toInt.toNat).toInt = (sf_a w 3 (xs (x4.toInt.toNat + 1)).toInt.toNat).toInt := fun h1 h2 => by rw [sf_F2d F2 h1 h2]
        have hrc : v12.toInt = (sf_f w30 71 0).toInt := by omega
        have hJ := sf_JH f_1 h00 F2 G2 hrc
        refine sf_istore (L' := [(5, .inl (.int v12)), (0, .inl (.ref 100000)), (1, .inl (.ref 0)), (2, .inl (.ref 71)), (3, .inl (.ref 130)), (4, .inl (.int x4))]) rfl ?_
        show kt_W_law_1421 N xs K _ _ _ _ _
        refine sf_iinc (L' := [(6, .inl (.int v29)), (5, .inl (.int v12)), (0, .inl (.ref 100000)), (1, .inl (.ref 0)), (2, .inl (.ref 71)), (3, .inl (.ref 130))]) (x := x4) sf_c8 rfl rfl (by omega) (fun v45 ev45 => ?_)
        refine sf_can (L' := [(0, .inl (.ref 100000)), (1, .inl (.ref 0)), (2, .inl (.ref 71)), (3, .inl (.ref 130)), (4, .inl (.int v45))]) rfl ?_
        exact ih _ _ _ _ Iw30 (by omega) (by omega) (by omega) (by omega) (by rw [c32]; rw [c33, c16]; rw [c34, c17]; rw [c35, c18]; rw [c36, c19]; rw [c37, c20]; rw [c38, c21]; rw [c39, c22]; rw [c40, c23]; omega) (by rw [c41]; first | exact f_1 | exact hJ) (by rw [c42, c25]; rw [c43, c26]; first | exact f_2 | exact hK2) (by omega)
      · clear h9
        refine sf_sw1 sf_c1 (fun h46 => ?_) (fun h46 => ?_)
        · refine sf_aload rfl ?_
          refine sf_aload rfl ?_
          refine sf_iload rfl ?_
          refine sf_iconst sf_c1 (fun z47 ez47 => ?_)
          refine sf_iadd (by omega) (fun v48 ev48 => ?_)
          refine sf_sldk (x := x4) (k := 1) (by omega) (by omega) (by omega) ?_
          clear ev48 ez47
          refine sf_aload rfl ?_
          refine sf_iload rfl ?_
          refine sf_iconst sf_c2 (fun z49 ez49 => ?_)
          refine sf_iadd (by omega) (fun v50 ev50 => ?_)
          refine sf_sldk (x := x4) (k := 2) (by omega) (by omega) (by omega) ?_
          clear ev50 ez49
          refine sf_aload rfl ?_
          refine sf_iload rfl ?_
          refine sf_iconst sf_c3 (fun z51 ez51 => ?_)
          refine sf_iadd (by omega) (fun v52 ev52 => ?_)
          refine sf_sldk (x := x4) (k := 3) (by omega) (by omega) (by omega) ?_
          clear ev52 ez51
          refine sf_aload rfl ?_
          refine sf_iload rfl ?_
          refine sf_iconst sf_c4 (fun z53 ez53 => ?_)
          refine sf_iadd (by omega) (fun v54 ev54 => ?_)
          refine sf_sldk (x := x4) (k := 4) (by omega) (by omega) (by omega) ?_
          clear ev54 ez53
          refine sf_aload rfl ?_
          refine sf_callv6 rfl (by omega) (by omega) ?_
          refine sc_W_note_0_130 I_w  (fun v55 w56 Iw56 tw56 lv55 uv55 q57_0 => ?_)
          have c58 := sf_mf tw56 (p := 1) (j := 0) rfl
          have c59 := sf_mf tw56 (p := 71) (j := 1) rfl
          have c60 := sf_mf tw56 (p := 71) (j := 5) rfl
          have c61 := sf_mf tw56 (p := 13) (j := 1) rfl
          have c62 := sf_mf tw56 (p := 71) (j := 10) rfl
          have c63 := sf_mf tw56 (p := 21) (j := 1) rfl
          have c64 := sf_mf tw56 (p := 71) (j := 18) rfl
          have c65 := sf_mf tw56 (p := 35) (j := 0) rfl
          have c66 := sf_mf tw56 (p := 71) (j := 35) rfl
          have c67 := sf_ma tw56 (p := 3) rfl
          have c68 := sf_ma tw56 (p := 72) rfl
          have c69 := sf_mg tw56 (p := 10) rfl
          have c70 := sf_ma tw56 (p := 93) rfl
          refine sf_istore (L' := [(0, .inl (.ref 100000)), (1, .inl (.ref 0)), (2, .inl (.ref 71)), (3, .inl (.ref 130)), (4, .inl (.int x4))]) rfl ?_
          refine sf_aload rfl ?_
          refine sf_aload rfl ?_
          refine sf_iload rfl ?_
          refine sf_iconst sf_c1 (fun z71 ez71 => ?_)
          refine sf_iadd (by omega) (fun v72 ev72 => ?_)
          refine sf_sldk (x := x4) (k := 1) (by omega) (by omega) (by omega) ?_
          clear ev72 ez71
          refine sf_aload rfl ?_
          refine sf_iload rfl ?_
          refine sf_iconst sf_c2 (fun z73 ez73 => ?_)
          refine sf_iadd (by omega) (fun v74 ev74 => ?_)
          refine sf_sldk (x := x4) (k := 2) (by omega) (by omega) (by omega) ?_
          clear ev74 ez73
          refine sf_aload rfl ?_
          refine sf_iload rfl ?_
          refine sf_iconst sf_c3 (fun z75 ez75 => ?_)
          refine sf_iadd (by omega) (fun v76 ev76 => ?_)
          refine sf_sldk (x := x4) (k := 3) (by omega) (by omega) (by omega) ?_
          clear ev76 ez75
          refine sf_aload rfl ?_
          refine sf_iload rfl ?_
          refine sf_iconst sf_c4 (fun z77 ez77 => ?_)
          refine sf_iadd (by omega) (fun v78 ev78 => ?_)
          refine sf_sldk (x := x4) (k := 4) (by omega) (by omega) (by omega) ?_
          clear ev78 ez77
          refine sf_callv5 rfl (by omega) (by omega) ?_
          refine sf_rv Iw56 rfl ?_
          refine sc_M_note Iw56  (fun v79 w80 Iw80 tw80 lv79 uv79 q81_0 => ?_)
          rw [c59] at q81_0
          rw [c60] at q81_0
          have c82 := sf_mf tw80 (p := 1) (j := 0) rfl
          have c83 := sf_mf tw80 (p := 71) (j := 1) rfl
          have c84 := sf_mf tw80 (p := 1) (j := 5) rfl
          have c85 := sf_mf tw80 (p := 13) (j := 1) rfl
          have c86 := sf_mf tw80 (p := 71) (j := 10) rfl
          have c87 := sf_mf tw80 (p := 21) (j := 1) rfl
          have c88 := sf_mf tw80 (p := 71) (j := 18) rfl
          have c89 := sf_mf tw80 (p := 35) (j := 0) rfl
          have c90 := sf_mf tw80 (p := 71) (j := 35) rfl
          have c91 := sf_ma tw80 (p := 3) rfl
          have c92 := sf_ma tw80 (p := 72) rfl
          have c93 := sf_mg tw80 (p := 10) rfl
          have c94 := sf_ma tw80 (p := 93) rfl
          have c95 := sf_mL tw80 (p := 130) rfl
          refine sf_istore (L' := [(5, .inl (.int v55)), (0, .inl (.ref 100000)), (1, .inl (.ref 0)), (2, .inl (.ref 71)), (3, .inl (.ref 130)), (4, .inl (.int x4))]) rfl ?_
          show kt_W_law_1421 N xs K _ _ _ _ _
          refine sf_iinc (L' := [(6, .inl (.int v79)), (5, .inl (.int v55)), (0, .inl (.ref 100000)), (1, .inl (.ref 0)), (2, .inl (.ref 71)), (3, .inl (.ref 130))]) (x := x4) sf_c8 rfl rfl (by omega) (fun v96 ev96 => ?_)
          refine sf_can (L' := [(0, .inl (.ref 100000)), (1, .inl (.ref 0)), (2, .inl (.ref 71)), (3, .inl (.ref 130)), (4, .inl (.int v96))]) rfl ?_
          exact ih _ _ _ _ Iw80 (by omega) (by omega) (by omega) (by omega) (by rw [c82, c58]; rw [c83, c59]; rw [c84]; rw [c85, c61]; rw [c86, c62]; rw [c87, c63]; rw [c88, c64]; rw [c89, c65]; rw [c90, c66]; omega) (by rw [c91, c67]; rw [c92, c68]; rw [c83, c59]; first | exact f_1 | exact hJ) (by rw [c93, c69]; rw [c94, c70]; first | exact f_2 | exact hK2) (by omega)
        · clear h46
          refine sf_sw1 sf_c2 (fun h97 => ?_) (fun h97 => ?_)
          · refine sf_aload rfl ?_
            refine sf_aload rfl ?_
            refine sf_iload rfl ?_
            refine sf_iconst sf_c1 (fun z98 ez98 => ?_)
            refine sf_iadd (by omega) (fun v99 ev99 => ?_)
            refine sf_sldk (x := x4) (k := 1) (by omega) (by omega) (by omega) ?_
            clear ev99 ez98
            refine sf_aload rfl ?_
            refine sf_iload rfl ?_
            refine sf_iconst sf_c2 (fun z100 ez100 => ?_)
            refine sf_iadd (by omega) (fun v101 ev101 => ?_)
            refine sf_sldk (x := x4) (k := 2) (by omega) (by omega) (by omega) ?_
            clear ev101 ez100
            refine sf_aload rfl ?_
            refine sf_iload rfl ?_
            refine sf_iconst sf_c3 (fun z102 ez102 => ?_)
            refine sf_iadd (by omega) (fun v103 ev103 => ?_)
            refine sf_sldk (x := x4) (k := 3) (by omega) (by omega) (by omega) ?_
            clear ev103 ez102
            refine sf_aload rfl ?_
            refine sf_callv5 rfl (by omega) (by omega) ?_
            refine sc_W_fact_0_130 I_w  (fun v104 w105 Iw105 tw105 lv104 uv104 q106_0 q106_1 => ?_)
            have c107 := sf_mf tw105 (p := 1) (j := 0) rfl
            have c108 := sf_mf tw105 (p := 71) (j := 1) rfl
            have c109 := sf_mf tw105 (p := 1) (j := 5) rfl
            have c110 := sf_mf tw105 (p := 71) (j := 5) rfl
            have c111 := sf_mf tw105 (p := 13) (j := 1) rfl
            have c112 := sf_mf tw105 (p := 71) (j := 10) rfl
            have c113 := sf_mf tw105 (p := 21) (j := 1) rfl
            have c114 := sf_mf tw105 (p := 71) (j := 18) rfl
            have c115 := sf_mf tw105 (p := 35) (j := 0) rfl
            have c116 := sf_mf tw105 (p := 71) (j := 35) rfl
            have c117 := sf_ma tw105 (p := 3) rfl
            have c118 := sf_ma tw105 (p := 72) rfl
            have c119 := sf_ma tw105 (p := 93) rfl
            have F1 := q106_0
            have F2 := q106_1
            clear q106_0 q106_1
            refine sf_istore (L' := [(0, .inl (.ref 100000)), (1, .inl (.ref 0)), (2, .inl (.ref 71)), (3, .inl (.ref 130)), (4, .inl (.int x4))]) rfl ?_
            refine sf_aload rfl ?_
            refine sf_aload rfl ?_
            refine sf_iload rfl ?_
            refine sf_iconst sf_c1 (fun z120 ez120 => ?_)
            refine sf_iadd (by omega) (fun v121 ev121 => ?_)
            refine sf_sldk (x := x4) (k := 1) (by omega) (by omega) (by omega) ?_
            clear ev121 ez120
            refine sf_aload rfl ?_
            refine sf_iload rfl ?_
            refine sf_iconst sf_c2 (fun z122 ez122 => ?_)
            refine sf_iadd (by omega) (fun v123 ev123 => ?_)
            refine sf_sldk (x := x4) (k := 2) (by omega) (by omega) (by omega) ?_
            clear ev123 ez122
            refine sf_aload rfl ?_
            refine sf_iload rfl ?_
            refine sf_iconst sf_c3 (fun z124 ez124 => ?_)
            refine sf_iadd (by omega) (fun v125 ev125 => ?_)
            refine sf_sldk (x := x4) (k := 3) (by omega) (by omega) (by omega) ?_
            clear ev125 ez124
            refine sf_callv4 rfl (by omega) (by omega) ?_
            refine sf_rv Iw105 rfl ?_
            refine sc_M_fact Iw105  (fun v126 w127 Iw127 tw127 q128_0 q128_1 => ?_)
            rw [c119] at q128_0
            rw [c119] at q128_1
            have c129 := sf_mf tw127 (p := 1) (j := 0) rfl
            have c130 := sf_mf tw127 (p := 71) (j := 1) rfl
            have c131 := sf_mf tw127 (p := 1) (j := 5) rfl
            have c132 := sf_mf tw127 (p := 71) (j := 5) rfl
            have c133 := sf_mf tw127 (p := 13) (j := 1) rfl
            have c134 := sf_mf tw127 (p := 71) (j := 10) rfl
            have c135 := sf_mf tw127 (p := 21) (j := 1) rfl
            have c136 := sf_mf tw127 (p := 71) (j := 18) rfl
            have c137 := sf_mf tw127 (p := 35) (j := 0) rfl
            have c138 := sf_mf tw127 (p := 71) (j := 35) rfl
            have c139 := sf_ma tw127 (p := 3) rfl
            have c140 := sf_ma tw127 (p := 72) rfl
            have c141 := sf_mg tw127 (p := 10) rfl
            have c142 := sf_mL tw127 (p := 130) rfl
            have G1 := q128_0
            have G2 := q128_1
            clear q128_0 q128_1
            have hK2 : sf_K (sf_g w105 10) (sf_a w127 93) := by
              rcases F2 with ⟨h1, h2⟩ | ⟨h1, h2, h3⟩ <;> rcases G2 with ⟨g1, g2⟩ | ⟨g1, g2, g3⟩
              · rw [h2, g2]; exact f_2
              · exfalso; omega
              · exfalso; omega
              · rw [h2, g2]; exact sf_KF f_2 (by omega) (by omega)
            have hKv : v104.toInt = 0 → (sf_g w 10 (xs (x4.toInt.toNat + 1)).toInt.toNat (xs (x4.toInt.toNat + 2)).toInt.toNat).toInt = (sf_a w 93 (8 * (xs (x4.toInt.toNat + 1)).toInt + (xs (x4.toInt.toNat + 2)).toInt).toNat).toInt := fun h1 => sf_Kv f_2 (by omega) (by omega)
            clear F2 G2
            refine sf_istore (L' := [(5, .inl (.int v104)), (0, .inl (.ref 100000)), (1, .inl (.ref 0)), (2, .inl (.ref 71)), (3, .inl (.ref 130)), (4, .inl (.int x4))]) rfl ?_
            show kt_W_law_1421 N xs K _ _ _ _ _
            refine sf_iinc (L' := [(6, .inl (.int v126)), (5, .inl (.int v104)), (0, .inl (.ref 100000)), (1, .inl (.ref 0)), (2, .inl (.ref 71)), (3, .inl (.ref 130))]) (x := x4) sf_c8 rfl rfl (by omega) (fun v143 ev143 => ?_)
            refine sf_can (L' := [(0, .inl (.ref 100000)), (1, .inl (.ref 0)), (2, .inl (.ref 71)), (3, .inl (.ref 130)), (4, .inl (.int v143))]) rfl ?_
            exact ih _ _ _ _ Iw127 (by omega) (by omega) (by omega) (by omega) (by rw [c129, c107]; rw [c130, c108]; rw [c131, c109]; rw [c132, c110]; rw [c133, c111]; rw [c134, c112]; rw [c135, c113]; rw [c136, c114]; rw [c137, c115]; rw [c138, c116]; omega) (by rw [c139, c117]; rw [c140, c118]; rw [c130, c108]; first | exact f_1 | exact hJ) (by rw [c141]; first | exact f_2 | exact hK2) (by omega)
          · clear h97
            refine sf_sw1 sf_c3 (fun h144 => ?_) (fun h144 => ?_)
            · refine sf_aload rfl ?_
              refine sf_aload rfl ?_
              refine sf_iload rfl ?_
              refine sf_iconst sf_c1 (fun z145 ez145 => ?_)
              refine sf_iadd (by omega) (fun v146 ev146 => ?_)
              refine sf_sldk (x := x4) (k := 1) (by omega) (by omega) (by omega) ?_
              clear ev146 ez145
              refine sf_aload rfl ?_
              refine sf_callv3 rfl (by omega) (by omega) ?_
              refine sc_W_classify_0_130 I_w  (fun v147 w148 Iw148 tw148 lv147 uv147 => ?_)
              have c150 := sf_mf tw148 (p := 1) (j := 0) rfl
              have c151 := sf_mf tw148 (p := 71) (j := 1) rfl
              have c152 := sf_mf tw148 (p := 1) (j := 5) rfl
              have c153 := sf_mf tw148 (p := 71) (j := 5) rfl
              have c154 := sf_mf tw148 (p := 13) (j := 1) rfl
              have c155 := sf_mf tw148 (p := 71) (j := 10) rfl
              have c156 := sf_mf tw148 (p := 21) (j := 1) rfl
              have c157 := sf_mf tw148 (p := 71) (j := 18) rfl
              have c158 := sf_mf tw148 (p := 35) (j := 0) rfl
              have c159 := sf_mf tw148 (p := 71) (j := 35) rfl
              have c160 := sf_ma tw148 (p := 3) rfl
              have c161 := sf_ma tw148 (p := 72) rfl
              have c162 := sf_mg tw148 (p := 10) rfl
              have c163 := sf_ma tw148 (p := 93) rfl
              refine sf_istore (L' := [(0, .inl (.ref 100000)), (1, .inl (.ref 0)), (2, .inl (.ref 71)), (3, .inl (.ref 130)), (4, .inl (.int x4))]) rfl ?_
              refine sf_aload rfl ?_
              refine sf_aload rfl ?_
              refine sf_iload rfl ?_
              refine sf_iconst sf_c1 (fun z164 ez164 => ?_)
              refine sf_iadd (by omega) (fun v165 ev165 => ?_)
              refine sf_sldk (x := x4) (k := 1) (by omega) (by omega) (by omega) ?_
              clear ev165 ez164
              refine sf_callv2 rfl (by omega) (by omega) ?_
              refine sf_rv Iw148 rfl ?_
              refine sc_M_classify Iw148  (fun v166 w167 Iw167 tw167 lv166 uv166 => ?_)
              have c169 := sf_mf tw167 (p := 1) (j := 0) rfl
              have c170 := sf_mf tw167 (p := 71) (j := 1) rfl
              have c171 := sf_mf tw167 (p := 1) (j := 5) rfl
              have c172 := sf_mf tw167 (p := 71) (j := 5) rfl
              have c173 := sf_mf tw167 (p := 13) (j := 1) rfl
              have c174 := sf_mf tw167 (p := 71) (j := 10) rfl
              have c175 := sf_mf tw167 (p := 21) (j := 1) rfl
              have c176 := sf_mf tw167 (p := 71) (j := 18) rfl
              have c177 := sf_mf tw167 (p := 35) (j := 0) rfl
              have c178 := sf_mf tw167 (p := 71) (j := 35) rfl
              have c179 := sf_ma tw167 (p := 3) rfl
              have c180 := sf_ma tw167 (p := 72) rfl
              have c181 := sf_mg tw167 (p := 10) rfl
              have c182 := sf_ma tw167 (p := 93) rfl
              have c183 := sf_mL tw167 (p := 130) rfl
              refine sf_istore (L' := [(5, .inl (.int v147)), (0, .inl (.ref 100000)), (1, .inl (.ref 0)), (2, .inl (.ref 71)), (3, .inl (.ref 130)), (4, .inl (.int x4))]) rfl ?_
              show kt_W_law_1421 N xs K _ _ _ _ _
              refine sf_iinc (L' := [(6, .inl (.int v166)), (5, .inl (.int v147)), (0, .inl (.ref 100000)), (1, .inl (.ref 0)), (2, .inl (.ref 71)), (3, .inl (.ref 130))]) (x := x4) sf_c8 rfl rfl (by omega) (fun v184 ev184 => ?_)
              refine sf_can (L' := [(0, .inl (.ref 100000)), (1, .inl (.ref 0)), (2, .inl (.ref 71)), (3, .inl (.ref 130)), (4, .inl (.int v184))]) rfl ?_
              exact ih _ _ _ _ Iw167 (by omega) (by omega) (by omega) (by omega) (by rw [c169, c150]; rw [c170, c151]; rw [c171, c152]; rw [c172, c153]; rw [c173, c154]; rw [c174, c155]; rw [c175, c156]; rw [c176, c157]; rw [c177, c158]; rw [c178, c159]; omega) (by rw [c179, c160]; rw [c180, c161]; rw [c170, c151]; first | exact f_1 | exact hJ) (by rw [c181, c162]; rw [c182, c163]; first | exact f_2 | exact hK2) (by omega)
            · clear h144
              refine sf_sw1 sf_c4 (fun h185 => ?_) (fun h185 => ?_)
              · refine sf_aload rfl ?_
                refine sf_aload rfl ?_
                refine sf_iload rfl ?_
                refine sf_iconst sf_c1 (fun z186 ez186 => ?_)
                refine sf_iadd (by omega) (fun v187 ev187 => ?_)
                refine sf_sldk (x := x4) (k := 1) (by omega) (by omega) (by omega) ?_
                clear ev187 ez186
                refine sf_aload rfl ?_
                refine sf_iload rfl ?_
                refine sf_iconst sf_c2 (fun z188 ez188 => ?_)
                refine sf_iadd (by omega) (fun v189 ev189 => ?_)
                refine sf_sldk (x := x4) (k := 2) (by omega) (by omega) (by omega) ?_
                clear ev189 ez188
                refine sf_aload rfl ?_
                refine sf_iload rfl ?_
                refine sf_iconst sf_c3 (fun z190 ez190 => ?_)
                refine sf_iadd (by omega) (fun v191 ev191 => ?_)
                refine sf_sldk (x := x4) (k := 3) (by omega) (by omega) (by omega) ?_
                clear ev191 ez190
                refine sf_aload rfl ?_
                refine sf_iload rfl ?_
                refine sf_iconst sf_c4 (fun z192 ez192 => ?_)
                refine sf_iadd (by omega) (fun v193 ev193 => ?_)
                refine sf_sldk (x := x4) (k := 4) (by omega) (by omega) (by omega) ?_
                clear ev193 ez192
                refine sf_aload rfl ?_
                refine sf_iload rfl ?_
                refine sf_iconst sf_c5 (fun z194 ez194 => ?_)
                refine sf_iadd (by omega) (fun v195 ev195 => ?_)
                refine sf_sldk (x := x4) (k := 5) (by omega) (by omega) (by omega) ?_
                clear ev195 ez194
                refine sf_aload rfl ?_
                refine sf_iload rfl ?_
                refine sf_iconst sf_c6 (fun z196 ez196 => ?_)
                refine sf_iadd (by omega) (fun v197 ev197 => ?_)
                refine sf_sldk (x := x4) (k := 6) (by omega) (by omega) (by omega) ?_
                clear ev197 ez196
                refine sf_aload rfl ?_
                refine sf_iload rfl ?_
                refine sf_iconst sf_c7 (fun z198 ez198 => ?_)
                refine sf_iadd (by omega) (fun v199 ev199 => ?_)
                refine sf_sldk (x := x4) (k := 7) (by omega) (by omega) (by omega) ?_
                clear ev199 ez198
                refine sf_aload rfl ?_
                refine sf_callv9 rfl (by omega) (by omega) ?_
                refine sc_W_rate_0_130 I_w  (fun v200 w201 Iw201 tw201 lv200 uv200 q202_0 => ?_)
                have c203 := sf_mf tw201 (p := 1) (j := 0) rfl
                have c204 := sf_mf tw201 (p := 71) (j := 1) rfl
                have c205 := sf_mf tw201 (p := 1) (j := 5) rfl
                have c206 := sf_mf tw201 (p := 71) (j := 5) rfl
                have c207 := sf_mf tw201 (p := 71) (j := 10) rfl
                have c208 := sf_mf tw201 (p := 21) (j := 1) rfl
                have c209 := sf_mf tw201 (p := 71) (j := 18) rfl
                have c210 := sf_mf tw201 (p := 35) (j := 0) rfl
                have c211 := sf_mf tw201 (p := 71) (j := 35) rfl
                have c212 := sf_ma tw201 (p := 3) rfl
                have c213 := sf_ma tw201 (p := 72) rfl
                have c214 := sf_mg tw201 (p := 10) rfl
                have c215 := sf_ma tw201 (p := 93) rfl
                refine sf_istore (L' := [(0, .inl (.ref 100000)), (1, .inl (.ref 0)), (2, .inl (.ref 71)), (3, .inl (.ref 130)), (4, .inl (.int x4))]) rfl ?_
                refine sf_aload rfl ?_
                refine sf_aload rfl ?_
                refine sf_iload rfl ?_
                refine sf_iconst sf_c1 (fun z216 ez216 => ?_)
                refine sf_iadd (by omega) (fun v217 ev217 => ?_)
                refine sf_sldk (x := x4) (k := 1) (by omega) (by omega) (by omega) ?_
                clear ev217 ez216
                refine sf_aload rfl ?_
                refine sf_iload rfl ?_
                refine sf_iconst sf_c2 (fun z218 ez218 => ?_)
                refine sf_iadd (by omega) (fun v219 ev219 => ?_)
                refine sf_sldk (x := x4) (k := 2) (by omega) (by omega) (by omega) ?_
                clear ev219 ez218
                refine sf_aload rfl ?_
                refine sf_iload rfl ?_
                refine sf_iconst sf_c3 (fun z220 ez220 => ?_)
                refine sf_iadd (by omega) (fun v221 ev221 => ?_)
                refine sf_sldk (x := x4) (k := 3) (by omega) (by omega) (by omega) ?_
                clear ev221 ez220
                refine sf_aload rfl ?_
                refine sf_iload rfl ?_
                refine sf_iconst sf_c4 (fun z222 ez222 => ?_)
                refine sf_iadd (by omega) (fun v223 ev223 => ?_)
                refine sf_sldk (x := x4) (k := 4) (by omega) (by omega) (by omega) ?_
                clear ev223 ez222
                refine sf_aload rfl ?_
                refine sf_iload rfl ?_
                refine sf_iconst sf_c5 (fun z224 ez224 => ?_)
                refine sf_iadd (by omega) (fun v225 ev225 => ?_)
                refine sf_sldk (x := x4) (k := 5) (by omega) (by omega) (by omega) ?_
                clear ev225 ez224
                refine sf_aload rfl ?_
                refine sf_iload rfl ?_
                refine sf_iconst sf_c6 (fun z226 ez226 => ?_)
                refine sf_iadd (by omega) (fun v227 ev227 => ?_)
                refine sf_sldk (x := x4) (k := 6) (by omega) (by omega) (by omega) ?_
                clear ev227 ez226
                refine sf_aload rfl ?_
                refine sf_iload rfl ?_
                refine sf_iconst sf_c7 (fun z228 ez228 => ?_)
                refine sf_iadd (by omega) (fun v229 ev229 => ?_)
                refine sf_sldk (x := x4) (k := 7) (by omega) (by omega) (by omega) ?_
                clear ev229 ez228
                refine sf_callv8 rfl (by omega) (by omega) ?_
                refine sf_rv Iw201 rfl ?_
                refine sc_M_rate Iw201  (fun v230 w231 Iw231 tw231 lv230 uv230 q232_0 => ?_)
                rw [c204] at q232_0
                rw [c207] at q232_0
                have c233 := sf_mf tw231 (p := 1) (j := 0) rfl
                have c234 := sf_mf tw231 (p := 71) (j := 1) rfl
                have c235 := sf_mf tw231 (p := 1) (j := 5) rfl
                have c236 := sf_mf tw231 (p := 71) (j := 5) rfl
                have c237 := sf_mf tw231 (p := 13) (j := 1) rfl
                have c238 := sf_mf tw231 (p := 21) (j := 1) rfl
                have c239 := sf_mf tw231 (p := 71) (j := 18) rfl
                have c240 := sf_mf tw231 (p := 35) (j := 0) rfl
                have c241 := sf_mf tw231 (p := 71) (j := 35) rfl
                have c242 := sf_ma tw231 (p := 3) rfl
                have c243 := sf_ma tw231 (p := 72) rfl
                have c244 := sf_mg tw231 (p := 10) rfl
                have c245 := sf_ma tw231 (p := 93) rfl
                have c246 := sf_mL tw231 (p := 130) rfl
                refine sf_istore (L' := [(5, .inl (.int v200)), (0, .inl (.ref 100000)), (1, .inl (.ref 0)), (2, .inl (.ref 71)), (3, .inl (.ref 130)), (4, .inl (.int x4))]) rfl ?_
                show kt_W_law_1421 N xs K _ _ _ _ _
                refine sf_iinc (L' := [(6, .inl (.int v230)), (5, .inl (.int v200)), (0, .inl (.ref 100000)), (1, .inl (.ref 0)), (2, .inl (.ref 71)), (3, .inl (.ref 130))]) (x := x4) sf_c8 rfl rfl (by omega) (fun v247 ev247 => ?_)
                refine sf_can (L' := [(0, .inl (.ref 100000)), (1, .inl (.ref 0)), (2, .inl (.ref 71)), (3, .inl (.ref 130)), (4, .inl (.int v247))]) rfl ?_
                exact ih _ _ _ _ Iw231 (by omega) (by omega) (by omega) (by omega) (by rw [c233, c203]; rw [c234, c204]; rw [c235, c205]; rw [c236, c206]; rw [c237]; rw [c238, c208]; rw [c239, c209]; rw [c240, c210]; rw [c241, c211]; omega) (by rw [c242, c212]; rw [c243, c213]; rw [c234, c204]; first | exact f_1 | exact hJ) (by rw [c244, c214]; rw [c245, c215]; first | exact f_2 | exact hK2) (by omega)
              · clear h185
                refine sf_sw1 sf_c5 (fun h248 => ?_) (fun h248 => ?_)
                · refine sf_aload rfl ?_
                  refine sf_aload rfl ?_
                  refine sf_iload rfl ?_
                  refine sf_iconst sf_c1 (fun z249 ez249 => ?_)
                  refine sf_iadd (by omega) (fun v250 ev250 => ?_)
                  refine sf_sldk (x := x4) (k := 1) (by omega) (by omega) (by omega) ?_
                  clear ev250 ez249
                  refine sf_aload rfl ?_
                  refine sf_iload rfl ?_
                  refine sf_iconst sf_c2 (fun z251 ez251 => ?_)
                  refine sf_iadd (by omega) (fun v252 ev252 => ?_)
                  refine sf_sldk (x := x4) (k := 2) (by omega) (by omega) (by omega) ?_
                  clear ev252 ez251
                  refine sf_aload rfl ?_
                  refine sf_iload rfl ?_
                  refine sf_iconst sf_c3 (fun z253 ez253 => ?_)
                  refine sf_iadd (by omega) (fun v254 ev254 => ?_)
                  refine sf_sldk (x := x4) (k := 3) (by omega) (by omega) (by omega) ?_
                  clear ev254 ez253
                  refine sf_aload rfl ?_
                  refine sf_callv5 rfl (by omega) (by omega) ?_
                  refine sc_W_rateFor_0_130 I_w  (fun v255 w256 Iw256 tw256 lv255 uv255 => ?_)
                  have c258 := sf_mf tw256 (p := 1) (j := 0) rfl
                  have c259 := sf_mf tw256 (p := 71) (j := 1) rfl
                  have c260 := sf_mf tw256 (p := 1) (j := 5) rfl
                  have c261 := sf_mf tw256 (p := 71) (j := 5) rfl
                  have c262 := sf_mf tw256 (p := 13) (j := 1) rfl
                  have c263 := sf_mf tw256 (p := 71) (j := 10) rfl
                  have c264 := sf_mf tw256 (p := 21) (j := 1) rfl
                  have c265 := sf_mf tw256 (p := 71) (j := 18) rfl
                  have c266 := sf_mf tw256 (p := 35) (j := 0) rfl
                  have c267 := sf_mf tw256 (p := 71) (j := 35) rfl
                  have c268 := sf_ma tw256 (p := 3) rfl
                  have c269 := sf_ma tw256 (p := 72) rfl
                  have c270 := sf_mg tw256 (p := 10) rfl
                  have c271 := sf_ma tw256 (p := 93) rfl
                  refine sf_istore (L' := [(0, .inl (.ref 100000)), (1, .inl (.ref 0)), (2, .inl (.ref 71)), (3, .inl (.ref 130)), (4, .inl (.int x4))]) rfl ?_
                  refine sf_aload rfl ?_
                  refine sf_aload rfl ?_
                  refine sf_iload rfl ?_
                  refine sf_iconst sf_c1 (fun z272 ez272 => ?_)
                  refine sf_iadd (by omega) (fun v273 ev273 => ?_)
                  refine sf_sldk (x := x4) (k := 1) (by omega) (by omega) (by omega) ?_
                  clear ev273 ez272
                  refine sf_aload rfl ?_
                  refine sf_iload rfl ?_
                  refine sf_iconst sf_c2 (fun z274 ez274 => ?_)
                  refine sf_iadd (by omega) (fun v275 ev275 => ?_)
                  refine sf_sldk (x := x4) (k := 2) (by omega) (by omega) (by omega) ?_
                  clear ev275 ez274
                  refine sf_aload rfl ?_
                  refine sf_iload rfl ?_
                  refine sf_iconst sf_c3 (fun z276 ez276 => ?_)
                  refine sf_iadd (by omega) (fun v277 ev277 => ?_)
                  refine sf_sldk (x := x4) (k := 3) (by omega) (by omega) (by omega) ?_
                  clear ev277 ez276
                  refine sf_callv4 rfl (by omega) (by omega) ?_
                  refine sf_rv Iw256 rfl ?_
                  refine sc_M_rateFor Iw256  (fun v278 w279 Iw279 tw279 lv278 uv278 => ?_)
                  have c281 := sf_mf tw279 (p := 1) (j := 0) rfl
                  have c282 := sf_mf tw279 (p := 71) (j := 1) rfl
                  have c283 := sf_mf tw279 (p := 1) (j := 5) rfl
                  have c284 := sf_mf tw279 (p := 71) (j := 5) rfl
                  have c285 := sf_mf tw279 (p := 13) (j := 1) rfl
                  have c286 := sf_mf tw279 (p := 71) (j := 10) rfl
                  have c287 := sf_mf tw279 (p := 21) (j := 1) rfl
                  have c288 := sf_mf tw279 (p := 71) (j := 18) rfl
                  have c289 := sf_mf tw279 (p := 35) (j := 0) rfl
                  have c290 := sf_mf tw279 (p := 71) (j := 35) rfl
                  have c291 := sf_ma tw279 (p := 3) rfl
                  have c292 := sf_ma tw279 (p := 72) rfl
                  have c293 := sf_mg tw279 (p := 10) rfl
                  have c294 := sf_ma tw279 (p := 93) rfl
                  have c295 := sf_mL tw279 (p := 130) rfl
                  refine sf_istore (L' := [(5, .inl (.int v255)), (0, .inl (.ref 100000)), (1, .inl (.ref 0)), (2, .inl (.ref 71)), (3, .inl (.ref 130)), (4, .inl (.int x4))]) rfl ?_
                  show kt_W_law_1421 N xs K _ _ _ _ _
                  refine sf_iinc (L' := [(6, .inl (.int v278)), (5, .inl (.int v255)), (0, .inl (.ref 100000)), (1, .inl (.ref 0)), (2, .inl (.ref 71)), (3, .inl (.ref 130))]) (x := x4) sf_c8 rfl rfl (by omega) (fun v296 ev296 => ?_)
                  refine sf_can (L' := [(0, .inl (.ref 100000)), (1, .inl (.ref 0)), (2, .inl (.ref 71)), (3, .inl (.ref 130)), (4, .inl (.int v296))]) rfl ?_
                  exact ih _ _ _ _ Iw279 (by omega) (by omega) (by omega) (by omega) (by rw [c281, c258]; rw [c282, c259]; rw [c283, c260]; rw [c284, c261]; rw [c285, c262]; rw [c286, c263]; rw [c287, c264]; rw [c288, c265]; rw [c289, c266]; rw [c290, c267]; omega) (by rw [c291, c268]; rw [c292, c269]; rw [c282, c259]; first | exact f_1 | exact hJ) (by rw [c293, c270]; rw [c294, c271]; first | exact f_2 | exact hK2) (by omega)
                · clear h248
                  refine sf_sw1 sf_c6 (fun h297 => ?_) (fun h297 => ?_)
                  · refine sf_aload rfl ?_
                    refine sf_aload rfl ?_
                    refine sf_iload rfl ?_
                    refine sf_iconst sf_c1 (fun z298 ez298 => ?_)
                    refine sf_iadd (by omega) (fun v299 ev299 => ?_)
                    refine sf_sldk (x := x4) (k := 1) (by omega) (by omega) (by omega) ?_
                    clear ev299 ez298
                    refine sf_aload rfl ?_
                    refine sf_iload rfl ?_
                    refine sf_iconst sf_c2 (fun z300 ez300 => ?_)
                    refine sf_iadd (by omega) (fun v301 ev301 => ?_)
                    refine sf_sldk (x := x4) (k := 2) (by omega) (by omega) (by omega) ?_
                    clear ev301 ez300
                    refine sf_aload rfl ?_
                    refine sf_iload rfl ?_
                    refine sf_iconst sf_c3 (fun z302 ez302 => ?_)
                    refine sf_iadd (by omega) (fun v303 ev303 => ?_)
                    refine sf_sldk (x := x4) (k := 3) (by omega) (by omega) (by omega) ?_
                    clear ev303 ez302
                    refine sf_aload rfl ?_
                    refine sf_iload rfl ?_
                    refine sf_iconst sf_c4 (fun z304 ez304 => ?_)
                    refine sf_iadd (by omega) (fun v305 ev305 => ?_)
                    refine sf_sldk (x := x4) (k := 4) (by omega) (by omega) (by omega) ?_
                    clear ev305 ez304
                    refine sf_aload rfl ?_
                    refine sf_iload rfl ?_
                    refine sf_iconst sf_c5 (fun z306 ez306 => ?_)
                    refine sf_iadd (by omega) (fun v307 ev307 => ?_)
                    refine sf_sldk (x := x4) (k := 5) (by omega) (by omega) (by omega) ?_
                    clear ev307 ez306
                    refine sf_aload rfl ?_
                    refine sf_iload rfl ?_
                    refine sf_iconst sf_c6 (fun z308 ez308 => ?_)
                    refine sf_iadd (by omega) (fun v309 ev309 => ?_)
                    refine sf_sldk (x := x4) (k := 6) (by omega) (by omega) (by omega) ?_
                    clear ev309 ez308
                    refine sf_aload rfl ?_
                    refine sf_callv8 rfl (by omega) (by omega) ?_
                    refine sc_W_quota_0_130 I_w  (fun v310 w311 Iw311 tw311 lv310 uv310 q312_0 => ?_)
                    have c313 := sf_mf tw311 (p := 1) (j := 0) rfl
                    have c314 := sf_mf tw311 (p := 71) (j := 1) rfl
                    have c315 := sf_mf tw311 (p := 1) (j := 5) rfl
                    have c316 := sf_mf tw311 (p := 71) (j := 5) rfl
                    have c317 := sf_mf tw311 (p := 13) (j := 1) rfl
                    have c318 := sf_mf tw311 (p := 71) (j := 10) rfl
                    have c319 := sf_mf tw311 (p := 71) (j := 18) rfl
                    have c320 := sf_mf tw311 (p := 35) (j := 0) rfl
                    have c321 := sf_mf tw311 (p := 71) (j := 35) rfl
                    have c322 := sf_ma tw311 (p := 3) rfl
                    have c323 := sf_ma tw311 (p := 72) rfl
                    have c324 := sf_mg tw311 (p := 10) rfl
                    have c325 := sf_ma tw311 (p := 93) rfl
                    refine sf_istore (L' := [(0, .inl (.ref 100000)), (1, .inl (.ref 0)), (2, .inl (.ref 71)), (3, .inl (.ref 130)), (4, .inl (.int x4))]) rfl ?_
                    refine sf_aload rfl ?_
                    refine sf_aload rfl ?_
                    refine sf_iload rfl ?_
                    refine sf_iconst sf_c1 (fun z326 ez326 => ?_)
                    refine sf_iadd (by omega) (fun v327 ev327 => ?_)
                    refine sf_sldk (x := x4) (k := 1) (by omega) (by omega) (by omega) ?_
                    clear ev327 ez326
                    refine sf_aload rfl ?_
                    refine sf_iload rfl ?_
                    refine sf_iconst sf_c2 (fun z328 ez328 => ?_)
                    refine sf_iadd (by omega) (fun v329 ev329 => ?_)
                    refine sf_sldk (x := x4) (k := 2) (by omega) (by omega) (by omega) ?_
                    clear ev329 ez328
                    refine sf_aload rfl ?_
                    refine sf_iload rfl ?_
                    refine sf_iconst sf_c3 (fun z330 ez330 => ?_)
                    refine sf_iadd (by omega) (fun v331 ev331 => ?_)
                    refine sf_sldk (x := x4) (k := 3) (by omega) (by omega) (by omega) ?_
                    clear ev331 ez330
                    refine sf_aload rfl ?_
                    refine sf_iload rfl ?_
                    refine sf_iconst sf_c4 (fun z332 ez332 => ?_)
                    refine sf_iadd (by omega) (fun v333 ev333 => ?_)
                    refine sf_sldk (x := x4) (k := 4) (by omega) (by omega) (by omega) ?_
                    clear ev333 ez332
                    refine sf_aload rfl ?_
                    refine sf_iload rfl ?_
                    refine sf_iconst sf_c5 (fun z334 ez334 => ?_)
                    refine sf_iadd (by omega) (fun v335 ev335 => ?_)
                    refine sf_sldk (x := x4) (k := 5) (by omega) (by omega) (by omega) ?_
                    clear ev335 ez334
                    refine sf_aload rfl ?_
                    refine sf_iload rfl ?_
                    refine sf_iconst sf_c6 (fun z336 ez336 => ?_)
                    refine sf_iadd (by omega) (fun v337 ev337 => ?_)
                    refine sf_sldk (x := x4) (k := 6) (by omega) (by omega) (by omega) ?_
                    clear ev337 ez336
                    refine sf_callv7 rfl (by omega) (by omega) ?_
                    refine sf_rv Iw311 rfl ?_
                    refine sc_M_quota Iw311  (fun v338 w339 Iw339 tw339 lv338 uv338 q340_0 => ?_)
                    rw [c314] at q340_0
                    rw [c319] at q340_0
                    have c341 := sf_mf tw339 (p := 1) (j := 0) rfl
                    have c342 := sf_mf tw339 (p := 71) (j := 1) rfl
                    have c343 := sf_mf tw339 (p := 1) (j := 5) rfl
                    have c344 := sf_mf tw339 (p := 71) (j := 5) rfl
                    have c345 := sf_mf tw339 (p := 13) (j := 1) rfl
                    have c346 := sf_mf tw339 (p := 71) (j := 10) rfl
                    have c347 := sf_mf tw339 (p := 21) (j := 1) rfl
                    have c348 := sf_mf tw339 (p := 35) (j := 0) rfl
                    have c349 := sf_mf tw339 (p := 71) (j := 35) rfl
                    have c350 := sf_ma tw339 (p := 3) rfl
                    have c351 := sf_ma tw339 (p := 72) rfl
                    have c352 := sf_mg tw339 (p := 10) rfl
                    have c353 := sf_ma tw339 (p := 93) rfl
                    have c354 := sf_mL tw339 (p := 130) rfl
                    refine sf_istore (L' := [(5, .inl (.int v310)), (0, .inl (.ref 100000)), (1, .inl (.ref 0)), (2, .inl (.ref 71)), (3, .inl (.ref 130)), (4, .inl (.int x4))]) rfl ?_
                    refine sf_aload rfl ?_
                    refine sf_callv1 rfl (by omega) (by omega) ?_
                    refine sf_rv Iw339 rfl ?_
                    refine sf_sp (L := [(0, .inl (.ref 71))]) rfl rfl ?_
                    refine sf_aload rfl ?_
                    refine sf_geti Iw339 rfl rfl (fun v355 lv355 uv355 ev355 => ?_)
                    refine sf_ireturn rfl rfl ?_
                    refine sf_iload rfl ?_
                    refine sf_f2_eq (fun h356 => ?_) (fun h356 => ?_)
                    · refine sf_iload rfl ?_
                      refine sf_f1_eq (fun h357 => ?_) (fun h357 => ?_)
                      · refine sf_aload rfl ?_
                        refine sf_iconst sf_c0 (fun z358 ez358 => ?_)
                        refine sf_lald Iw339 rfl (by omega) (fun v359 ev359 => ?_)
                        rw [c354] at ev359
                        rw [show z358.toInt.toNat = 0 by omega] at ev359
                        refine sf_iload rfl ?_
                        refine sf_i2l (fun v360 ev360 => ?_)
                        refine sf_fl_eq (fun h361 => ?_) (fun h361 => ?_)
                        · show kt_W_law_1421 N xs K _ _ _ _ _
                          refine sf_iinc (L' := [(6, .inl (.int v338)), (5, .inl (.int v310)), (0, .inl (.ref 100000)), (1, .inl (.ref 0)), (2, .inl (.ref 71)), (3, .inl (.ref 130))]) (x := x4) sf_c8 rfl rfl (by omega) (fun v362 ev362 => ?_)
                          refine sf_can (L' := [(0, .inl (.ref 100000)), (1, .inl (.ref 0)), (2, .inl (.ref 71)), (3, .inl (.ref 130)), (4, .inl (.int v362))]) rfl ?_
                          exact ih _ _ _ _ Iw339 (by omega) (by omega) (by omega) (by omega) (by rw [c341, c313]; rw [c342, c314]; rw [c343, c315]; rw [c344, c316]; rw [c345, c317]; rw [c346, c318]; rw [c347]; rw [c348, c320]; rw [c349, c321]; omega) (by rw [c350, c322]; rw [c351, c323]; rw [c342, c314]; first | exact f_1 | exact hJ) (by rw [c352, c324]; rw [c353, c325]; first | exact f_2 | exact hK2) (by omega)
                        · refine sf_iconst sf_c0 (fun z363 ez363 => ?_)
                          exact sf_lend (by omega) (by omega) (by omega)
                      · show kt_W_law_1421 N xs K _ _ _ _ _
                        refine sf_iinc (L' := [(6, .inl (.int v338)), (5, .inl (.int v310)), (0, .inl (.ref 100000)), (1, .inl (.ref 0)), (2, .inl (.ref 71)), (3, .inl (.ref 130))]) (x := x4) sf_c8 rfl rfl (by omega) (fun v364 ev364 => ?_)
                        refine sf_can (L' := [(0, .inl (.ref 100000)), (1, .inl (.ref 0)), (2, .inl (.ref 71)), (3, .inl (.ref 130)), (4, .inl (.int v364))]) rfl ?_
                        exact ih _ _ _ _ Iw339 (by omega) (by omega) (by omega) (by omega) (by rw [c341, c313]; rw [c342, c314]; rw [c343, c315]; rw [c344, c316]; rw [c345, c317]; rw [c346, c318]; rw [c347]; rw [c348, c320]; rw [c349, c321]; omega) (by rw [c350, c322]; rw [c351, c323]; rw [c342, c314]; first | exact f_1 | exact hJ) (by rw [c352, c324]; rw [c353, c325]; first | exact f_2 | exact hK2) (by omega)
                    · refine sf_iconst sf_c0 (fun z365 ez365 => ?_)
                      exact sf_lend (by omega) (by omega) (by omega)
                  · clear h297
                    refine sf_sw1 sf_c7 (fun h366 => ?_) (fun h366 => ?_)
                    · refine sf_aload rfl ?_
                      refine sf_aload rfl ?_
                      refine sf_iload rfl ?_
                      refine sf_iconst sf_c1 (fun z367 ez367 => ?_)
                      refine sf_iadd (by omega) (fun v368 ev368 => ?_)
                      refine sf_sldk (x := x4) (k := 1) (by omega) (by omega) (by omega) ?_
                      clear ev368 ez367
                      refine sf_aload rfl ?_
                      refine sf_callv3 rfl (by omega) (by omega) ?_
                      refine sc_W_quotaLeft_0_130 I_w  (fun v369 w370 Iw370 tw370 lv369 uv369 => ?_)
                      have c372 := sf_mf tw370 (p := 1) (j := 0) rfl
                      have c373 := sf_mf tw370 (p := 71) (j := 1) rfl
                      have c374 := sf_mf tw370 (p := 1) (j := 5) rfl
                      have c375 := sf_mf tw370 (p := 71) (j := 5) rfl
                      have c376 := sf_mf tw370 (p := 13) (j := 1) rfl
                      have c377 := sf_mf tw370 (p := 71) (j := 10) rfl
                      have c378 := sf_mf tw370 (p := 21) (j := 1) rfl
                      have c379 := sf_mf tw370 (p := 71) (j := 18) rfl
                      have c380 := sf_mf tw370 (p := 35) (j := 0) rfl
                      have c381 := sf_mf tw370 (p := 71) (j := 35) rfl
                      have c382 := sf_ma tw370 (p := 3) rfl
                      have c383 := sf_ma tw370 (p := 72) rfl
                      have c384 := sf_mg tw370 (p := 10) rfl
                      have c385 := sf_ma tw370 (p := 93) rfl
                      refine sf_istore (L' := [(0, .inl (.ref 100000)), (1, .inl (.ref 0)), (2, .inl (.ref 71)), (3, .inl (.ref 130)), (4, .inl (.int x4))]) rfl ?_
                      refine sf_aload rfl ?_
                      refine sf_aload rfl ?_
                      refine sf_iload rfl ?_
                      refine sf_iconst sf_c1 (fun z386 ez386 => ?_)
                      refine sf_iadd (by omega) (fun v387 ev387 => ?_)
                      refine sf_sldk (x := x4) (k := 1) (by omega) (by omega) (by omega) ?_
                      clear ev387 ez386
                      refine sf_callv2 rfl (by omega) (by omega) ?_
                      refine sf_rv Iw370 rfl ?_
                      refine sc_M_quotaLeft Iw370  (fun v388 w389 Iw389 tw389 => ?_)
                      have c391 := sf_mf tw389 (p := 1) (j := 0) rfl
                      have c392 := sf_mf tw389 (p := 71) (j := 1) rfl
                      have c393 := sf_mf tw389 (p := 1) (j := 5) rfl
                      have c394 := sf_mf tw389 (p := 71) (j := 5) rfl
                      have c395 := sf_mf tw389 (p := 13) (j := 1) rfl
                      have c396 := sf_mf tw389 (p := 71) (j := 10) rfl
                      have c397 := sf_mf tw389 (p := 21) (j := 1) rfl
                      have c398 := sf_mf tw389 (p := 71) (j := 18) rfl
                      have c399 := sf_mf tw389 (p := 35) (j := 0) rfl
                      have c400 := sf_mf tw389 (p := 71) (j := 35) rfl
                      have c401 := sf_ma tw389 (p := 3) rfl
                      have c402 := sf_ma tw389 (p := 72) rfl
                      have c403 := sf_mg tw389 (p := 10) rfl
                      have c404 := sf_ma tw389 (p := 93) rfl
                      have c405 := sf_mL tw389 (p := 130) rfl
                      refine sf_istore (L' := [(5, .inl (.int v369)), (0, .inl (.ref 100000)), (1, .inl (.ref 0)), (2, .inl (.ref 71)), (3, .inl (.ref 130)), (4, .inl (.int x4))]) rfl ?_
                      show kt_W_law_1421 N xs K _ _ _ _ _
                      refine sf_iinc (L' := [(6, .inl (.int v388)), (5, .inl (.int v369)), (0, .inl (.ref 100000)), (1, .inl (.ref 0)), (2, .inl (.ref 71)), (3, .inl (.ref 130))]) (x := x4) sf_c8 rfl rfl (by omega) (fun v406 ev406 => ?_)
                      refine sf_can (L' := [(0, .inl (.ref 100000)), (1, .inl (.ref 0)), (2, .inl (.ref 71)), (3, .inl (.ref 130)), (4, .inl (.int v406))]) rfl ?_
                      exact ih _ _ _ _ Iw389 (by omega) (by omega) (by omega) (by omega) (by rw [c391, c372]; rw [c392, c373]; rw [c393, c374]; rw [c394, c375]; rw [c395, c376]; rw [c396, c377]; rw [c397, c378]; rw [c398, c379]; rw [c399, c380]; rw [c400, c381]; omega) (by rw [c401, c382]; rw [c402, c383]; rw [c392, c373]; first | exact f_1 | exact hJ) (by rw [c403, c384]; rw [c404, c385]; first | exact f_2 | exact hK2) (by omega)
                    · clear h366
                      refine sf_sw1 sf_c8 (fun h407 => ?_) (fun h407 => ?_)
                      · refine sf_aload rfl ?_
                        refine sf_aload rfl ?_
                        refine sf_iload rfl ?_
                        refine sf_iconst sf_c1 (fun z408 ez408 => ?_)
                        refine sf_iadd (by omega) (fun v409 ev409 => ?_)
                        refine sf_sldk (x := x4) (k := 1) (by omega) (by omega) (by omega) ?_
                        clear ev409 ez408
                        refine sf_aload rfl ?_
                        refine sf_iload rfl ?_
                        refine sf_iconst sf_c2 (fun z410 ez410 => ?_)
                        refine sf_iadd (by omega) (fun v411 ev411 => ?_)
                        refine sf_sldk (x := x4) (k := 2) (by omega) (by omega) (by omega) ?_
                        clear ev411 ez410
                        refine sf_aload rfl ?_
                        refine sf_iload rfl ?_
                        refine sf_iconst sf_c3 (fun z412 ez412 => ?_)
                        refine sf_iadd (by omega) (fun v413 ev413 => ?_)
                        refine sf_sldk (x := x4) (k := 3) (by omega) (by omega) (by omega) ?_
                        clear ev413 ez412
                        refine sf_aload rfl ?_
                        refine sf_iload rfl ?_
                        refine sf_iconst sf_c4 (fun z414 ez414 => ?_)
                        refine sf_iadd (by omega) (fun v415 ev415 => ?_)
                        refine sf_sldk (x := x4) (k := 4) (by omega) (by omega) (by omega) ?_
                        clear ev415 ez414
                        refine sf_aload rfl ?_
                        refine sf_callv6 rfl (by omega) (by omega) ?_
                        refine sc_W_part_0_130 I_w  (fun v416 w417 Iw417 tw417 lv416 uv416 => ?_)
                        have c419 := sf_mf tw417 (p := 1) (j := 0) rfl
                        have c420 := sf_mf tw417 (p := 71) (j := 1) rfl
                        have c421 := sf_mf tw417 (p := 1) (j := 5) rfl
                        have c422 := sf_mf tw417 (p := 71) (j := 5) rfl
                        have c423 := sf_mf tw417 (p := 13) (j := 1) rfl
                        have c424 := sf_mf tw417 (p := 71) (j := 10) rfl
                        have c425 := sf_mf tw417 (p := 21) (j := 1) rfl
                        have c426 := sf_mf tw417 (p := 71) (j := 18) rfl
                        have c427 := sf_mf tw417 (p := 35) (j := 0) rfl
                        have c428 := sf_mf tw417 (p := 71) (j := 35) rfl
                        have c429 := sf_ma tw417 (p := 3) rfl
                        have c430 := sf_ma tw417 (p := 72) rfl
                        have c431 := sf_mg tw417 (p := 10) rfl
                        have c432 := sf_ma tw417 (p := 93) rfl
                        refine sf_istore (L' := [(0, .inl (.ref 100000)), (1, .inl (.ref 0)), (2, .inl (.ref 71)), (3, .inl (.ref 130)), (4, .inl (.int x4))]) rfl ?_
                        refine sf_aload rfl ?_
                        refine sf_aload rfl ?_
                        refine sf_iload rfl ?_
                        refine sf_iconst sf_c1 (fun z433 ez433 => ?_)
                        refine sf_iadd (by omega) (fun v434 ev434 => ?_)
                        refine sf_sldk (x := x4) (k := 1) (by omega) (by omega) (by omega) ?_
                        clear ev434 ez433
                        refine sf_aload rfl ?_
                        refine sf_iload rfl ?_
                        refine sf_iconst sf_c2 (fun z435 ez435 => ?_)
                        refine sf_iadd (by omega) (fun v436 ev436 => ?_)
                        refine sf_sldk (x := x4) (k := 2) (by omega) (by omega) (by omega) ?_
                        clear ev436 ez435
                        refine sf_aload rfl ?_
                        refine sf_iload rfl ?_
                        refine sf_iconst sf_c3 (fun z437 ez437 => ?_)
                        refine sf_iadd (by omega) (fun v438 ev438 => ?_)
                        refine sf_sldk (x := x4) (k := 3) (by omega) (by omega) (by omega) ?_
                        clear ev438 ez437
                        refine sf_aload rfl ?_
                        refine sf_iload rfl ?_
                        refine sf_iconst sf_c4 (fun z439 ez439 => ?_)
                        refine sf_iadd (by omega) (fun v440 ev440 => ?_)
                        refine sf_sldk (x := x4) (k := 4) (by omega) (by omega) (by omega) ?_
                        clear ev440 ez439
                        refine sf_callv5 rfl (by omega) (by omega) ?_
                        refine sf_rv Iw417 rfl ?_
                        refine sc_M_part Iw417  (fun v441 w442 Iw442 tw442 lv441 uv441 => ?_)
                        have c444 := sf_mf tw442 (p := 1) (j := 0) rfl
                        have c445 := sf_mf tw442 (p := 71) (j := 1) rfl
                        have c446 := sf_mf tw442 (p := 1) (j := 5) rfl
                        have c447 := sf_mf tw442 (p := 71) (j := 5) rfl
                        have c448 := sf_mf tw442 (p := 13) (j := 1) rfl
                        have c449 := sf_mf tw442 (p := 71) (j := 10) rfl
                        have c450 := sf_mf tw442 (p := 21) (j := 1) rfl
                        have c451 := sf_mf tw442 (p := 71) (j := 18) rfl
                        have c452 := sf_mf tw442 (p := 35) (j := 0) rfl
                        have c453 := sf_mf tw442 (p := 71) (j := 35) rfl
                        have c454 := sf_ma tw442 (p := 3) rfl
                        have c455 := sf_ma tw442 (p := 72) rfl
                        have c456 := sf_mg tw442 (p := 10) rfl
                        have c457 := sf_ma tw442 (p := 93) rfl
                        have c458 := sf_mL tw442 (p := 130) rfl
                        refine sf_istore (L' := [(5, .inl (.int v416)), (0, .inl (.ref 100000)), (1, .inl (.ref 0)), (2, .inl (.ref 71)), (3, .inl (.ref 130)), (4, .inl (.int x4))]) rfl ?_
                        show kt_W_law_1421 N xs K _ _ _ _ _
                        refine sf_iinc (L' := [(6, .inl (.int v441)), (5, .inl (.int v416)), (0, .inl (.ref 100000)), (1, .inl (.ref 0)), (2, .inl (.ref 71)), (3, .inl (.ref 130))]) (x := x4) sf_c8 rfl rfl (by omega) (fun v459 ev459 => ?_)
                        refine sf_can (L' := [(0, .inl (.ref 100000)), (1, .inl (.ref 0)), (2, .inl (.ref 71)), (3, .inl (.ref 130)), (4, .inl (.int v459))]) rfl ?_
                        exact ih _ _ _ _ Iw442 (by omega) (by omega) (by omega) (by omega) (by rw [c444, c419]; rw [c445, c420]; rw [c446, c421]; rw [c447, c422]; rw [c448, c423]; rw [c449, c424]; rw [c450, c425]; rw [c451, c426]; rw [c452, c427]; rw [c453, c428]; omega) (by rw [c454, c429]; rw [c455, c430]; rw [c445, c420]; first | exact f_1 | exact hJ) (by rw [c456, c431]; rw [c457, c432]; first | exact f_2 | exact hK2) (by omega)
                      · clear h407
                        refine sf_sw1 sf_c9 (fun h460 => ?_) (fun h460 => ?_)
                        · refine sf_aload rfl ?_
                          refine sf_aload rfl ?_
                          refine sf_iload rfl ?_
                          refine sf_iconst sf_c1 (fun z461 ez461 => ?_)
                          refine sf_iadd (by omega) (fun v462 ev462 => ?_)
                          refine sf_sldk (x := x4) (k := 1) (by omega) (by omega) (by omega) ?_
                          clear ev462 ez461
                          refine sf_aload rfl ?_
                          refine sf_iload rfl ?_
                          refine sf_iconst sf_c2 (fun z463 ez463 => ?_)
                          refine sf_iadd (by omega) (fun v464 ev464 => ?_)
                          refine sf_sldk (x := x4) (k := 2) (by omega) (by omega) (by omega) ?_
                          clear ev464 ez463
                          refine sf_callv3 rfl (by omega) (by omega) ?_
                          refine sc_W_zone_0 I_w  (fun v465 w466 Iw466 tw466 lv465 uv465 q467_0 => ?_)
                          have c468 := sf_mf tw466 (p := 1) (j := 0) rfl
                          have c469 := sf_mf tw466 (p := 71) (j := 1) rfl
                          have c470 := sf_mf tw466 (p := 1) (j := 5) rfl
                          have c471 := sf_mf tw466 (p := 71) (j := 5) rfl
                          have c472 := sf_mf tw466 (p := 13) (j := 1) rfl
                          have c473 := sf_mf tw466 (p := 71) (j := 10) rfl
                          have c474 := sf_mf tw466 (p := 21) (j := 1) rfl
                          have c475 := sf_mf tw466 (p := 71) (j := 18) rfl
                          have c476 := sf_mf tw466 (p := 35) (j := 0) rfl
                          have c477 := sf_mf tw466 (p := 71) (j := 35) rfl
                          have c478 := sf_ma tw466 (p := 3) rfl
                          have c479 := sf_ma tw466 (p := 72) rfl
                          have c480 := sf_mg tw466 (p := 10) rfl
                          have c481 := sf_ma tw466 (p := 93) rfl
                          have c482 := sf_mL tw466 (p := 130) rfl
                          refine sf_istore (L' := [(0, .inl (.ref 100000)), (1, .inl (.ref 0)), (2, .inl (.ref 71)), (3, .inl (.ref 130)), (4, .inl (.int x4))]) rfl ?_
                          refine sf_aload rfl ?_
                          refine sf_aload rfl ?_
                          refine sf_iload rfl ?_
                          refine sf_iconst sf_c1 (fun z483 ez483 => ?_)
                          refine sf_iadd (by omega) (fun v484 ev484 => ?_)
                          refine sf_sldk (x := x4) (k := 1) (by omega) (by omega) (by omega) ?_
                          clear ev484 ez483
                          refine sf_aload rfl ?_
                          refine sf_iload rfl ?_
                          refine sf_iconst sf_c2 (fun z485 ez485 => ?_)
                          refine sf_iadd (by omega) (fun v486 ev486 => ?_)
                          refine sf_sldk (x := x4) (k := 2) (by omega) (by omega) (by omega) ?_
                          clear ev486 ez485
                          refine sf_callv3 rfl (by omega) (by omega) ?_
                          refine sf_rv Iw466 rfl ?_
                          refine sc_M_zone Iw466  (fun w487 Iw487 tw487 q488_0 => ?_)
                          have c489 := sf_mf tw487 (p := 1) (j := 0) rfl
                          have c490 := sf_mf tw487 (p := 71) (j := 1) rfl
                          have c491 := sf_mf tw487 (p := 1) (j := 5) rfl
                          have c492 := sf_mf tw487 (p := 71) (j := 5) rfl
                          have c493 := sf_mf tw487 (p := 13) (j := 1) rfl
                          have c494 := sf_mf tw487 (p := 71) (j := 10) rfl
                          have c495 := sf_mf tw487 (p := 21) (j := 1) rfl
                          have c496 := sf_mf tw487 (p := 71) (j := 18) rfl
                          have c497 := sf_mf tw487 (p := 35) (j := 0) rfl
                          have c498 := sf_mf tw487 (p := 71) (j := 35) rfl
                          have c499 := sf_ma tw487 (p := 3) rfl
                          have c500 := sf_ma tw487 (p := 72) rfl
                          have c501 := sf_mg tw487 (p := 10) rfl
                          have c502 := sf_ma tw487 (p := 93) rfl
                          have c503 := sf_mL tw487 (p := 130) rfl
                          show kt_W_law_1421 N xs K _ _ _ _ _
                          refine sf_iinc (L' := [(5, .inl (.int v465)), (0, .inl (.ref 100000)), (1, .inl (.ref 0)), (2, .inl (.ref 71)), (3, .inl (.ref 130))]) (x := x4) sf_c8 rfl rfl (by omega) (fun v504 ev504 => ?_)
                          refine sf_can (L' := [(0, .inl (.ref 100000)), (1, .inl (.ref 0)), (2, .inl (.ref 71)), (3, .inl (.ref 130)), (4, .inl (.int v504))]) rfl ?_
                          exact ih _ _ _ _ Iw487 (by omega) (by omega) (by omega) (by omega) (by rw [c489, c468]; rw [c490, c469]; rw [c491, c470]; rw [c492, c471]; rw [c493, c472]; rw [c494, c473]; rw [c495, c474]; rw [c496, c475]; rw [c497, c476]; rw [c498, c477]; omega) (by rw [c499, c478]; rw [c500, c479]; rw [c490, c469]; first | exact f_1 | exact hJ) (by rw [c501, c480]; rw [c502, c481]; first | exact f_2 | exact hK2) (by omega)
                        · clear h460
                          refine sf_sw1 sf_c10 (fun h505 => ?_) (fun h505 => ?_)
                          · refine sf_aload rfl ?_
                            refine sf_aload rfl ?_
                            refine sf_iload rfl ?_
                            refine sf_iconst sf_c1 (fun z506 ez506 => ?_)
                            refine sf_iadd (by omega) (fun v507 ev507 => ?_)
                            refine sf_sldk (x := x4) (k := 1) (by omega) (by omega) (by omega) ?_
                            clear ev507 ez506
                            refine sf_aload rfl ?_
                            refine sf_iload rfl ?_
                            refine sf_iconst sf_c2 (fun z508 ez508 => ?_)
                            refine sf_iadd (by omega) (fun v509 ev509 => ?_)
                            refine sf_sldk (x := x4) (k := 2) (by omega) (by omega) (by omega) ?_
                            clear ev509 ez508
                            refine sf_aload rfl ?_
                            refine sf_iload rfl ?_
                            refine sf_iconst sf_c3 (fun z510 ez510 => ?_)
                            refine sf_iadd (by omega) (fun v511 ev511 => ?_)
                            refine sf_sldk (x := x4) (k := 3) (by omega) (by omega) (by omega) ?_
                            clear ev511 ez510
                            refine sf_callv4 rfl (by omega) (by omega) ?_
                            refine sc_W_rule_0 I_w  (fun v512 w513 Iw513 tw513 lv512 uv512 q514_0 => ?_)
                            have c515 := sf_mf tw513 (p := 1) (j := 0) rfl
                            have c516 := sf_mf tw513 (p := 71) (j := 1) rfl
                            have c517 := sf_mf tw513 (p := 1) (j := 5) rfl
                            have c518 := sf_mf tw513 (p := 71) (j := 5) rfl
                            have c519 := sf_mf tw513 (p := 13) (j := 1) rfl
                            have c520 := sf_mf tw513 (p := 71) (j := 10) rfl
                            have c521 := sf_mf tw513 (p := 21) (j := 1) rfl
                            have c522 := sf_mf tw513 (p := 71) (j := 18) rfl
                            have c523 := sf_mf tw513 (p := 35) (j := 0) rfl
                            have c524 := sf_mf tw513 (p := 71) (j := 35) rfl
                            have c525 := sf_ma tw513 (p := 3) rfl
                            have c526 := sf_ma tw513 (p := 72) rfl
                            have c527 := sf_mg tw513 (p := 10) rfl
                            have c528 := sf_ma tw513 (p := 93) rfl
                            have c529 := sf_mL tw513 (p := 130) rfl
                            refine sf_istore (L' := [(0, .inl (.ref 100000)), (1, .inl (.ref 0)), (2, .inl (.ref 71)), (3, .inl (.ref 130)), (4, .inl (.int x4))]) rfl ?_
                            refine sf_aload rfl ?_
                            refine sf_aload rfl ?_
                            refine sf_iload rfl ?_
                            refine sf_iconst sf_c1 (fun z530 ez530 => ?_)
                            refine sf_iadd (by omega) (fun v531 ev531 => ?_)
                            refine sf_sldk (x := x4) (k := 1) (by omega) (by omega) (by omega) ?_
                            clear ev531 ez530
                            refine sf_aload rfl ?_
                            refine sf_iload rfl ?_
                            refine sf_iconst sf_c2 (fun z532 ez532 => ?_)
                            refine sf_iadd (by omega) (fun v533 ev533 => ?_)
                            refine sf_sldk (x := x4) (k := 2) (by omega) (by omega) (by omega) ?_
                            clear ev533 ez532
                            refine sf_aload rfl ?_
                            refine sf_iload rfl ?_
                            refine sf_iconst sf_c3 (fun z534 ez534 => ?_)
                            refine sf_iadd (by omega) (fun v535 ev535 => ?_)
                            refine sf_sldk (x := x4) (k := 3) (by omega) (by omega) (by omega) ?_
                            clear ev535 ez534
                            refine sf_callv4 rfl (by omega) (by omega) ?_
                            refine sf_rv Iw513 rfl ?_
                            refine sc_M_rule Iw513  (fun w536 Iw536 tw536 q537_0 => ?_)
                            rw [c516] at q537_0
                            have c538 := sf_mf tw536 (p := 1) (j := 0) rfl
                            have c539 := sf_mf tw536 (p := 71) (j := 1) rfl
                            have c540 := sf_mf tw536 (p := 1) (j := 5) rfl
                            have c541 := sf_mf tw536 (p := 71) (j := 5) rfl
                            have c542 := sf_mf tw536 (p := 13) (j := 1) rfl
                            have c543 := sf_mf tw536 (p := 71) (j := 10) rfl
                            have c544 := sf_mf tw536 (p := 21) (j := 1) rfl
                            have c545 := sf_mf tw536 (p := 71) (j := 18) rfl
                            have c546 := sf_mf tw536 (p := 35) (j := 0) rfl
                            have c547 := sf_mf tw536 (p := 71) (j := 35) rfl
                            have c548 := sf_ma tw536 (p := 3) rfl
                            have c549 := sf_ma tw536 (p := 72) rfl
                            have c550 := sf_mg tw536 (p := 10) rfl
                            have c551 := sf_ma tw536 (p := 93) rfl
                            have c552 := sf_mL tw536 (p := 130) rfl
                            show kt_W_law_1421 N xs K _ _ _ _ _
                            refine sf_iinc (L' := [(5, .inl (.int v512)), (0, .inl (.ref 100000)), (1, .inl (.ref 0)), (2, .inl (.ref 71)), (3, .inl (.ref 130))]) (x := x4) sf_c8 rfl rfl (by omega) (fun v553 ev553 => ?_)
                            refine sf_can (L' := [(0, .inl (.ref 100000)), (1, .inl (.ref 0)), (2, .inl (.ref 71)), (3, .inl (.ref 130)), (4, .inl (.int v553))]) rfl ?_
                            exact ih _ _ _ _ Iw536 (by omega) (by omega) (by omega) (by omega) (by rw [c538, c515]; rw [c539, c516]; rw [c540, c517]; rw [c541, c518]; rw [c542, c519]; rw [c543, c520]; rw [c544, c521]; rw [c545, c522]; rw [c546, c523]; rw [c547, c524]; omega) (by rw [c548, c525]; rw [c549, c526]; rw [c539, c516]; first | exact f_1 | exact hJ) (by rw [c550, c527]; rw [c551, c528]; first | exact f_2 | exact hK2) (by omega)
                          · clear h505
                            refine sf_sw1 sf_c11 (fun h554 => ?_) (fun h554 => ?_)
                            · refine sf_aload rfl ?_
                              refine sf_aload rfl ?_
                              refine sf_iload rfl ?_
                              refine sf_iconst sf_c1 (fun z555 ez555 => ?_)
                              refine sf_iadd (by omega) (fun v556 ev556 => ?_)
                              refine sf_sldk (x := x4) (k := 1) (by omega) (by omega) (by omega) ?_
                              clear ev556 ez555
                              refine sf_aload rfl ?_
                              refine sf_iload rfl ?_
                              refine sf_iconst sf_c2 (fun z557 ez557 => ?_)
                              refine sf_iadd (by omega) (fun v558 ev558 => ?_)
                              refine sf_sldk (x := x4) (k := 2) (by omega) (by omega) (by omega) ?_
                              clear ev558 ez557
                              refine sf_aload rfl ?_
                              refine sf_callv4 rfl (by omega) (by omega) ?_
                              refine sc_W_madeIn_0_130 I_w  (fun v559 w560 Iw560 tw560 lv559 uv559 => ?_)
                              have c562 := sf_mf tw560 (p := 1) (j := 0) rfl
                              have c563 := sf_mf tw560 (p := 71) (j := 1) rfl
                              have c564 := sf_mf tw560 (p := 1) (j := 5) rfl
                              have c565 := sf_mf tw560 (p := 71) (j := 5) rfl
                              have c566 := sf_mf tw560 (p := 13) (j := 1) rfl
                              have c567 := sf_mf tw560 (p := 71) (j := 10) rfl
                              have c568 := sf_mf tw560 (p := 21) (j := 1) rfl
                              have c569 := sf_mf tw560 (p := 71) (j := 18) rfl
                              have c570 := sf_mf tw560 (p := 35) (j := 0) rfl
                              have c571 := sf_mf tw560 (p := 71) (j := 35) rfl
                              have c572 := sf_ma tw560 (p := 3) rfl
                              have c573 := sf_ma tw560 (p := 72) rfl
                              have c574 := sf_mg tw560 (p := 10) rfl
                              have c575 := sf_ma tw560 (p := 93) rfl
                              refine sf_istore (L' := [(0, .inl (.ref 100000)), (1, .inl (.ref 0)), (2, .inl (.ref 71)), (3, .inl (.ref 130)), (4, .inl (.int x4))]) rfl ?_
                              refine sf_aload rfl ?_
                              refine sf_aload rfl ?_
                              refine sf_iload rfl ?_
                              refine sf_iconst sf_c1 (fun z576 ez576 => ?_)
                              refine sf_iadd (by omega) (fun v577 ev577 => ?_)
                              refine sf_sldk (x := x4) (k := 1) (by omega) (by omega) (by omega) ?_
                              clear ev577 ez576
                              refine sf_aload rfl ?_
                              refine sf_iload rfl ?_
                              refine sf_iconst sf_c2 (fun z578 ez578 => ?_)
                              refine sf_iadd (by omega) (fun v579 ev579 => ?_)
                              refine sf_sldk (x := x4) (k := 2) (by omega) (by omega) (by omega) ?_
                              clear ev579 ez578
                              refine sf_callv3 rfl (by omega) (by omega) ?_
                              refine sf_rv Iw560 rfl ?_
                              refine sc_M_madeIn Iw560  (fun v580 w581 Iw581 tw581 lv580 uv580 => ?_)
                              have c583 := sf_mf tw581 (p := 1) (j := 0) rfl
                              have c584 := sf_mf tw581 (p := 71) (j := 1) rfl
                              have c585 := sf_mf tw581 (p := 1) (j := 5) rfl
                              have c586 := sf_mf tw581 (p := 71) (j := 5) rfl
                              have c587 := sf_mf tw581 (p := 13) (j := 1) rfl
                              have c588 := sf_mf tw581 (p := 71) (j := 10) rfl
                              have c589 := sf_mf tw581 (p := 21) (j := 1) rfl
                              have c590 := sf_mf tw581 (p := 71) (j := 18) rfl
                              have c591 := sf_mf tw581 (p := 35) (j := 0) rfl
                              have c592 := sf_mf tw581 (p := 71) (j := 35) rfl
                              have c593 := sf_ma tw581 (p := 3) rfl
                              have c594 := sf_ma tw581 (p := 72) rfl
                              have c595 := sf_mg tw581 (p := 10) rfl
                              have c596 := sf_ma tw581 (p := 93) rfl
                              have c597 := sf_mL tw581 (p := 130) rfl
                              refine sf_istore (L' := [(5, .inl (.int v559)), (0, .inl (.ref 100000)), (1, .inl (.ref 0)), (2, .inl (.ref 71)), (3, .inl (.ref 130)), (4, .inl (.int x4))]) rfl ?_
                              show kt_W_law_1421 N xs K _ _ _ _ _
                              refine sf_iinc (L' := [(6, .inl (.int v580)), (5, .inl (.int v559)), (0, .inl (.ref 100000)), (1, .inl (.ref 0)), (2, .inl (.ref 71)), (3, .inl (.ref 130))]) (x := x4) sf_c8 rfl rfl (by omega) (fun v598 ev598 => ?_)
                              refine sf_can (L' := [(0, .inl (.ref 100000)), (1, .inl (.ref 0)), (2, .inl (.ref 71)), (3, .inl (.ref 130)), (4, .inl (.int v598))]) rfl ?_
                              exact ih _ _ _ _ Iw581 (by omega) (by omega) (by omega) (by omega) (by rw [c583, c562]; rw [c584, c563]; rw [c585, c564]; rw [c586, c565]; rw [c587, c566]; rw [c588, c567]; rw [c589, c568]; rw [c590, c569]; rw [c591, c570]; rw [c592, c571]; omega) (by rw [c593, c572]; rw [c594, c573]; rw [c584, c563]; first | exact f_1 | exact hJ) (by rw [c595, c574]; rw [c596, c575]; first | exact f_2 | exact hK2) (by omega)
                            · clear h554
                              refine sf_sw1 sf_c12 (fun h599 => ?_) (fun h599 => ?_)
                              · refine sf_aload rfl ?_
                                refine sf_aload rfl ?_
                                refine sf_iload rfl ?_
                                refine sf_iconst sf_c1 (fun z600 ez600 => ?_)
                                refine sf_iadd (by omega) (fun v601 ev601 => ?_)
                                refine sf_sldk (x := x4) (k := 1) (by omega) (by omega) (by omega) ?_
                                clear ev601 ez600
                                refine sf_aload rfl ?_
                                refine sf_iload rfl ?_
                                refine sf_iconst sf_c2 (fun z602 ez602 => ?_)
                                refine sf_iadd (by omega) (fun v603 ev603 => ?_)
                                refine sf_sldk (x := x4) (k := 2) (by omega) (by omega) (by omega) ?_
                                clear ev603 ez602
                                refine sf_aload rfl ?_
                                refine sf_callv4 rfl (by omega) (by omega) ?_
                                refine sc_W_declare_0_130 I_w  (fun v604 w605 Iw605 tw605 lv604 uv604 q606_0 => ?_)
                                have c607 := sf_mf tw605 (p := 1) (j := 0) rfl
                                have c608 := sf_mf tw605 (p := 71) (j := 1) rfl
                                have c609 := sf_mf tw605 (p := 1) (j := 5) rfl
                                have c610 := sf_mf tw605 (p := 71) (j := 5) rfl
                                have c611 := sf_mf tw605 (p := 13) (j := 1) rfl
                                have c612 := sf_mf tw605 (p := 71) (j := 10) rfl
                                have c613 := sf_mf tw605 (p := 21) (j := 1) rfl
                                have c614 := sf_mf tw605 (p := 71) (j := 18) rfl
                                have c615 := sf_mf tw605 (p := 71) (j := 35) rfl
                                have c616 := sf_ma tw605 (p := 3) rfl
                                have c617 := sf_ma tw605 (p := 72) rfl
                                have c618 := sf_mg tw605 (p := 10) rfl
                                have c619 := sf_ma tw605 (p := 93) rfl
                                refine sf_istore (L' := [(0, .inl (.ref 100000)), (1, .inl (.ref 0)), (2, .inl (.ref 71)), (3, .inl (.ref 130)), (4, .inl (.int x4))]) rfl ?_
                                refine sf_aload rfl ?_
                                refine sf_aload rfl ?_
                                refine sf_iload rfl ?_
                                refine sf_iconst sf_c1 (fun z620 ez620 => ?_)
                                refine sf_iadd (by omega) (fun v621 ev621 => ?_)
                                refine sf_sldk (x := x4) (k := 1) (by omega) (by omega) (by omega) ?_
                                clear ev621 ez620
                                refine sf_aload rfl ?_
                                refine sf_iload rfl ?_
                                refine sf_iconst sf_c2 (fun z622 ez622 => ?_)
                                refine sf_iadd (by omega) (fun v623 ev623 => ?_)
                                refine sf_sldk (x := x4) (k := 2) (by omega) (by omega) (by omega) ?_
                                clear ev623 ez622
                                refine sf_callv3 rfl (by omega) (by omega) ?_
                                refine sf_rv Iw605 rfl ?_
                                refine sc_M_declare Iw605  (fun v624 w625 Iw625 tw625 lv624 uv624 q626_0 => ?_)
                                rw [c615] at q626_0
                                have c627 := sf_mf tw625 (p := 1) (j := 0) rfl
                                have c628 := sf_mf tw625 (p := 71) (j := 1) rfl
                                have c629 := sf_mf tw625 (p := 1) (j := 5) rfl
                                have c630 := sf_mf tw625 (p := 71) (j := 5) rfl
                                have c631 := sf_mf tw625 (p := 13) (j := 1) rfl
                                have c632 := sf_mf tw625 (p := 71) (j := 10) rfl
                                have c633 := sf_mf tw625 (p := 21) (j := 1) rfl
                                have c634 := sf_mf tw625 (p := 71) (j := 18) rfl
                                have c635 := sf_mf tw625 (p := 35) (j := 0) rfl
                                have c636 := sf_ma tw625 (p := 3) rfl
                                have c637 := sf_ma tw625 (p := 72) rfl
                                have c638 := sf_mg tw625 (p := 10) rfl
                                have c639 := sf_ma tw625 (p := 93) rfl
                                have c640 := sf_mL tw625 (p := 130) rfl
                                refine sf_istore (L' := [(5, .inl (.int v604)), (0, .inl (.ref 100000)), (1, .inl (.ref 0)), (2, .inl (.ref 71)), (3, .inl (.ref 130)), (4, .inl (.int x4))]) rfl ?_
                                show kt_W_law_1421 N xs K _ _ _ _ _
                                refine sf_iinc (L' := [(6, .inl (.int v624)), (5, .inl (.int v604)), (0, .inl (.ref 100000)), (1, .inl (.ref 0)), (2, .inl (.ref 71)), (3, .inl (.ref 130))]) (x := x4) sf_c8 rfl rfl (by omega) (fun v641 ev641 => ?_)
                                refine sf_can (L' := [(0, .inl (.ref 100000)), (1, .inl (.ref 0)), (2, .inl (.ref 71)), (3, .inl (.ref 130)), (4, .inl (.int v641))]) rfl ?_
                                exact ih _ _ _ _ Iw625 (by omega) (by omega) (by omega) (by omega) (by rw [c627, c607]; rw [c628, c608]; rw [c629, c609]; rw [c630, c610]; rw [c631, c611]; rw [c632, c612]; rw [c633, c613]; rw [c634, c614]; rw [c635]; omega) (by rw [c636, c616]; rw [c637, c617]; rw [c628, c608]; first | exact f_1 | exact hJ) (by rw [c638, c618]; rw [c639, c619]; first | exact f_2 | exact hK2) (by omega)
                              · clear h599
                                refine sf_sw1 sf_c13 (fun h642 => ?_) (fun h642 => ?_)
                                · refine sf_aload rfl ?_
                                  refine sf_aload rfl ?_
                                  refine sf_iload rfl ?_
                                  refine sf_iconst sf_c1 (fun z643 ez643 => ?_)
                                  refine sf_iadd (by omega) (fun v644 ev644 => ?_)
                                  refine sf_sldk (x := x4) (k := 1) (by omega) (by omega) (by omega) ?_
                                  clear ev644 ez643
                                  refine sf_aload rfl ?_
                                  refine sf_iload rfl ?_
                                  refine sf_iconst sf_c2 (fun z645 ez645 => ?_)
                                  refine sf_iadd (by omega) (fun v646 ev646 => ?_)
                                  refine sf_sldk (x := x4) (k := 2) (by omega) (by omega) (by omega) ?_
                                  clear ev646 ez645
                                  refine sf_aload rfl ?_
                                  refine sf_iload rfl ?_
                                  refine sf_iconst sf_c3 (fun z647 ez647 => ?_)
                                  refine sf_iadd (by omega) (fun v648 ev648 => ?_)
                                  refine sf_sldk (x := x4) (k := 3) (by omega) (by omega) (by omega) ?_
                                  clear ev648 ez647
                                  refine sf_aload rfl ?_
                                  refine sf_iload rfl ?_
                                  refine sf_iconst sf_c4 (fun z649 ez649 => ?_)
                                  refine sf_iadd (by omega) (fun v650 ev650 => ?_)
                                  refine sf_sldk (x := x4) (k := 4) (by omega) (by omega) (by omega) ?_
                                  clear ev650 ez649
                                  refine sf_aload rfl ?_
                                  refine sf_iload rfl ?_
                                  refine sf_iconst sf_c5 (fun z651 ez651 => ?_)
                                  refine sf_iadd (by omega) (fun v652 ev652 => ?_)
                                  refine sf_sldk (x := x4) (k := 5) (by omega) (by omega) (by omega) ?_
                                  clear ev652 ez651
                                  refine sf_aload rfl ?_
                                  refine sf_iload rfl ?_
                                  refine sf_iconst sf_c6 (fun z653 ez653 => ?_)
                                  refine sf_iadd (by omega) (fun v654 ev654 => ?_)
                                  refine sf_sldk (x := x4) (k := 6) (by omega) (by omega) (by omega) ?_
                                  clear ev654 ez653
                                  refine sf_aload rfl ?_
                                  refine sf_iload rfl ?_
                                  refine sf_iconst sf_c7 (fun z655 ez655 => ?_)
                                  refine sf_iadd (by omega) (fun v656 ev656 => ?_)
                                  refine sf_sldk (x := x4) (k := 7) (by omega) (by omega) (by omega) ?_
                                  clear ev656 ez655
                                  refine sf_f1_eq (fun h657 => ?_) (fun h657 => ?_)
                                  · refine sf_iconst sf_c0 (fun z658 ez658 => ?_)
                                    refine sf_aload rfl ?_
                                    refine sf_callv9 rfl (by omega) (by omega) ?_
                                    refine sc_W_line_0_130 I_w (by omega) (by omega) (fun v659 w660 Iw660 tw660 lv659 uv659 => ?_)
                                    have c662 := sf_mf tw660 (p := 1) (j := 0) rfl
                                    have c663 := sf_mf tw660 (p := 71) (j := 1) rfl
                                    have c664 := sf_mf tw660 (p := 1) (j := 5) rfl
                                    have c665 := sf_mf tw660 (p := 71) (j := 5) rfl
                                    have c666 := sf_mf tw660 (p := 13) (j := 1) rfl
                                    have c667 := sf_mf tw660 (p := 71) (j := 10) rfl
                                    have c668 := sf_mf tw660 (p := 21) (j := 1) rfl
                                    have c669 := sf_mf tw660 (p := 71) (j := 18) rfl
                                    have c670 := sf_mf tw660 (p := 35) (j := 0) rfl
                                    have c671 := sf_mf tw660 (p := 71) (j := 35) rfl
                                    have c672 := sf_ma tw660 (p := 3) rfl
                                    have c673 := sf_ma tw660 (p := 72) rfl
                                    have c674 := sf_mg tw660 (p := 10) rfl
                                    have c675 := sf_ma tw660 (p := 93) rfl
                                    refine sf_istore (L' := [(0, .inl (.ref 100000)), (1, .inl (.ref 0)), (2, .inl (.ref 71)), (3, .inl (.ref 130)), (4, .inl (.int x4))]) rfl ?_
                                    refine sf_aload rfl ?_
                                    refine sf_aload rfl ?_
                                    refine sf_iload rfl ?_
                                    refine sf_iconst sf_c1 (fun z676 ez676 => ?_)
                                    refine sf_iadd (by omega) (fun v677 ev677 => ?_)
                                    refine sf_sldk (x := x4) (k := 1) (by omega) (by omega) (by omega) ?_
                                    clear ev677 ez676
                                    refine sf_aload rfl ?_
                                    refine sf_iload rfl ?_
                                    refine sf_iconst sf_c2 (fun z678 ez678 => ?_)
                                    refine sf_iadd (by omega) (fun v679 ev679 => ?_)
                                    refine sf_sldk (x := x4) (k := 2) (by omega) (by omega) (by omega) ?_
                                    clear ev679 ez678
                                    refine sf_aload rfl ?_
                                    refine sf_iload rfl ?_
                                    refine sf_iconst sf_c3 (fun z680 ez680 => ?_)
                                    refine sf_iadd (by omega) (fun v681 ev681 => ?_)
                                    refine sf_sldk (x := x4) (k := 3) (by omega) (by omega) (by omega) ?_
                                    clear ev681 ez680
                                    refine sf_aload rfl ?_
                                    refine sf_iload rfl ?_
                                    refine sf_iconst sf_c4 (fun z682 ez682 => ?_)
                                    refine sf_iadd (by omega) (fun v683 ev683 => ?_)
                                    refine sf_sldk (x := x4) (k := 4) (by omega) (by omega) (by omega) ?_
                                    clear ev683 ez682
                                    refine sf_aload rfl ?_
                                    refine sf_iload rfl ?_
                                    refine sf_iconst sf_c5 (fun z684 ez684 => ?_)
                                    refine sf_iadd (by omega) (fun v685 ev685 => ?_)
                                    refine sf_sldk (x := x4) (k := 5) (by omega) (by omega) (by omega) ?_
                                    clear ev685 ez684
                                    refine sf_aload rfl ?_
                                    refine sf_iload rfl ?_
                                    refine sf_iconst sf_c6 (fun z686 ez686 => ?_)
                                    refine sf_iadd (by omega) (fun v687 ev687 => ?_)
                                    refine sf_sldk (x := x4) (k := 6) (by omega) (by omega) (by omega) ?_
                                    clear ev687 ez686
                                    refine sf_aload rfl ?_
                                    refine sf_iload rfl ?_
                                    refine sf_iconst sf_c7 (fun z688 ez688 => ?_)
                                    refine sf_iadd (by omega) (fun v689 ev689 => ?_)
                                    refine sf_sldk (x := x4) (k := 7) (by omega) (by omega) (by omega) ?_
                                    clear ev689 ez688
                                    refine sf_f1_eq (fun h690 => ?_) (fun h690 => absurd h690 (by omega))
                                    refine sf_iconst sf_c0 (fun z691 ez691 => ?_)
                                    refine sf_callv8 rfl (by omega) (by omega) ?_
                                    refine sf_rv Iw660 rfl ?_
                                    refine sc_M_line Iw660 (by omega) (by omega) (fun v692 w693 Iw693 tw693 lv692 uv692 => ?_)
                                    have c695 := sf_mf tw693 (p := 1) (j := 0) rfl
                                    have c696 := sf_mf tw693 (p := 71) (j := 1) rfl
                                    have c697 := sf_mf tw693 (p := 1) (j := 5) rfl
                                    have c698 := sf_mf tw693 (p := 71) (j := 5) rfl
                                    have c699 := sf_mf tw693 (p := 13) (j := 1) rfl
                                    have c700 := sf_mf tw693 (p := 71) (j := 10) rfl
                                    have c701 := sf_mf tw693 (p := 21) (j := 1) rfl
                                    have c702 := sf_mf tw693 (p := 71) (j := 18) rfl
                                    have c703 := sf_mf tw693 (p := 35) (j := 0) rfl
                                    have c704 := sf_mf tw693 (p := 71) (j := 35) rfl
                                    have c705 := sf_ma tw693 (p := 3) rfl
                                    have c706 := sf_ma tw693 (p := 72) rfl
                                    have c707 := sf_mg tw693 (p := 10) rfl
                                    have c708 := sf_ma tw693 (p := 93) rfl
                                    have c709 := sf_mL tw693 (p := 130) rfl
                                    refine sf_istore (L' := [(5, .inl (.int v659)), (0, .inl (.ref 100000)), (1, .inl (.ref 0)), (2, .inl (.ref 71)), (3, .inl (.ref 130)), (4, .inl (.int x4))]) rfl ?_
                                    show kt_W_law_1421 N xs K _ _ _ _ _
                                    refine sf_iinc (L' := [(6, .inl (.int v692)), (5, .inl (.int v659)), (0, .inl (.ref 100000)), (1, .inl (.ref 0)), (2, .inl (.ref 71)), (3, .inl (.ref 130))]) (x := x4) sf_c8 rfl rfl (by omega) (fun v710 ev710 => ?_)
                                    refine sf_can (L' := [(0, .inl (.ref 100000)), (1, .inl (.ref 0)), (2, .inl (.ref 71)), (3, .inl (.ref 130)), (4, .inl (.int v710))]) rfl ?_
                                    exact ih _ _ _ _ Iw693 (by omega) (by omega) (by omega) (by omega) (by rw [c695, c662]; rw [c696, c663]; rw [c697, c664]; rw [c698, c665]; rw [c699, c666]; rw [c700, c667]; rw [c701, c668]; rw [c702, c669]; rw [c703, c670]; rw [c704, c671]; omega) (by rw [c705, c672]; rw [c706, c673]; rw [c696, c663]; first | exact f_1 | exact hJ) (by rw [c707, c674]; rw [c708, c675]; first | exact f_2 | exact hK2) (by omega)
                                  · refine sf_iconst sf_c1 (fun z711 ez711 => ?_)
                                    show kt_W_law_909 N xs K _ _ _ _ _
                                    refine sf_aload rfl ?_
                                    refine sf_callv9 rfl (by omega) (by omega) ?_
                                    refine sc_W_line_0_130 I_w (by omega) (by omega) (fun v712 w713 Iw713 tw713 lv712 uv712 => ?_)
                                    have c715 := sf_mf tw713 (p := 1) (j := 0) rfl
                                    have c716 := sf_mf tw713 (p := 71) (j := 1) rfl
                                    have c717 := sf_mf tw713 (p := 1) (j := 5) rfl
                                    have c718 := sf_mf tw713 (p := 71) (j := 5) rfl
                                    have c719 := sf_mf tw713 (p := 13) (j := 1) rfl
                                    have c720 := sf_mf tw713 (p := 71) (j := 10) rfl
                                    have c721 := sf_mf tw713 (p := 21) (j := 1) rfl
                                    have c722 := sf_mf tw713 (p := 71) (j := 18) rfl
                                    have c723 := sf_mf tw713 (p := 35) (j := 0) rfl
                                    have c724 := sf_mf tw713 (p := 71) (j := 35) rfl
                                    have c725 := sf_ma tw713 (p := 3) rfl
                                    have c726 := sf_ma tw713 (p := 72) rfl
                                    have c727 := sf_mg tw713 (p := 10) rfl
                                    have c728 := sf_ma tw713 (p := 93) rfl
                                    refine sf_istore (L' := [(0, .inl (.ref 100000)), (1, .inl (.ref 0)), (2, .inl (.ref 71)), (3, .inl (.ref 130)), (4, .inl (.int x4))]) rfl ?_
                                    refine sf_aload rfl ?_
                                    refine sf_aload rfl ?_
                                    refine sf_iload rfl ?_
                                    refine sf_iconst sf_c1 (fun z729 ez729 => ?_)
                                    refine sf_iadd (by omega) (fun v730 ev730 => ?_)
                                    refine sf_sldk (x := x4) (k := 1) (by omega) (by omega) (by omega) ?_
                                    clear ev730 ez729
                                    refine sf_aload rfl ?_
                                    refine sf_iload rfl ?_
                                    refine sf_iconst sf_c2 (fun z731 ez731 => ?_)
                                    refine sf_iadd (by omega) (fun v732 ev732 => ?_)
                                    refine sf_sldk (x := x4) (k := 2) (by omega) (by omega) (by omega) ?_
                                    clear ev732 ez731
                                    refine sf_aload rfl ?_
                                    refine sf_iload rfl ?_
                                    refine sf_iconst sf_c3 (fun z733 ez733 => ?_)
                                    refine sf_iadd (by omega) (fun v734 ev734 => ?_)
                                    refine sf_sldk (x := x4) (k := 3) (by omega) (by omega) (by omega) ?_
                                    clear ev734 ez733
                                    refine sf_aload rfl ?_
                                    refine sf_iload rfl ?_
                                    refine sf_iconst sf_c4 (fun z735 ez735 => ?_)
                                    refine sf_iadd (by omega) (fun v736 ev736 => ?_)
                                    refine sf_sldk (x := x4) (k := 4) (by omega) (by omega) (by omega) ?_
                                    clear ev736 ez735
                                    refine sf_aload rfl ?_
                                    refine sf_iload rfl ?_
                                    refine sf_iconst sf_c5 (fun z737 ez737 => ?_)
                                    refine sf_iadd (by omega) (fun v738 ev738 => ?_)
                                    refine sf_sldk (x := x4) (k := 5) (by omega) (by omega) (by omega) ?_
                                    clear ev738 ez737
                                    refine sf_aload rfl ?_
                                    refine sf_iload rfl ?_
                                    refine sf_iconst sf_c6 (fun z739 ez739 => ?_)
                                    refine sf_iadd (by omega) (fun v740 ev740 => ?_)
                                    refine sf_sldk (x := x4) (k := 6) (by omega) (by omega) (by omega) ?_
                                    clear ev740 ez739
                                    refine sf_aload rfl ?_
                                    refine sf_iload rfl ?_
                                    refine sf_iconst sf_c7 (fun z741 ez741 => ?_)
                                    refine sf_iadd (by omega) (fun v742 ev742 => ?_)
                                    refine sf_sldk (x := x4) (k := 7) (by omega) (by omega) (by omega) ?_
                                    clear ev742 ez741
                                    refine sf_f1_eq (fun h743 => ?_) (fun h743 => ?_)
                                    · refine sf_iconst sf_c0 (fun z744 ez744 => ?_)
                                      refine sf_callv8 rfl (by omega) (by omega) ?_
                                      refine sf_rv Iw713 rfl ?_
                                      refine sc_M_line Iw713 (by omega) (by omega) (fun v745 w746 Iw746 tw746 lv745 uv745 => ?_)
                                      have c748 := sf_mf tw746 (p := 1) (j := 0) rfl
                                      have c749 := sf_mf tw746 (p := 71) (j := 1) rfl
                                      have c750 := sf_mf tw746 (p := 1) (j := 5) rfl
                                      have c751 := sf_mf tw746 (p := 71) (j := 5) rfl
                                      have c752 := sf_mf tw746 (p := 13) (j := 1) rfl
                                      have c753 := sf_mf tw746 (p := 71) (j := 10) rfl
                                      have c754 := sf_mf tw746 (p := 21) (j := 1) rfl
                                      have c755 := sf_mf tw746 (p := 71) (j := 18) rfl
                                      have c756 := sf_mf tw746 (p := 35) (j := 0) rfl
                                      have c757 := sf_mf tw746 (p := 71) (j := 35) rfl
                                      have c758 := sf_ma tw746 (p := 3) rfl
                                      have c759 := sf_ma tw746 (p := 72) rfl
                                      have c760 := sf_mg tw746 (p := 10) rfl
                                      have c761 := sf_ma tw746 (p := 93) rfl
                                      have c762 := sf_mL tw746 (p := 130) rfl
                                      refine sf_istore (L' := [(5, .inl (.int v712)), (0, .inl (.ref 100000)), (1, .inl (.ref 0)), (2, .inl (.ref 71)), (3, .inl (.ref 130)), (4, .inl (.int x4))]) rfl ?_
                                      show kt_W_law_1421 N xs K _ _ _ _ _
                                      refine sf_iinc (L' := [(6, .inl (.int v745)), (5, .inl (.int v712)), (0, .inl (.ref 100000)), (1, .inl (.ref 0)), (2, .inl (.ref 71)), (3, .inl (.ref 130))]) (x := x4) sf_c8 rfl rfl (by omega) (fun v763 ev763 => ?_)
                                      refine sf_can (L' := [(0, .inl (.ref 100000)), (1, .inl (.ref 0)), (2, .inl (.ref 71)), (3, .inl (.ref 130)), (4, .inl (.int v763))]) rfl ?_
                                      exact ih _ _ _ _ Iw746 (by omega) (by omega) (by omega) (by omega) (by rw [c748, c715]; rw [c749, c716]; rw [c750, c717]; rw [c751, c718]; rw [c752, c719]; rw [c753, c720]; rw [c754, c721]; rw [c755, c722]; rw [c756, c723]; rw [c757, c724]; omega) (by rw [c758, c725]; rw [c759, c726]; rw [c749, c716]; first | exact f_1 | exact hJ) (by rw [c760, c727]; rw [c761, c728]; first | exact f_2 | exact hK2) (by omega)
                                    · refine sf_iconst sf_c1 (fun z764 ez764 => ?_)
                                      show kt_W_law_968 N xs K _ _ _ _ _
                                      refine sf_callv8 rfl (by omega) (by omega) ?_
                                      refine sf_rv Iw713 rfl ?_
                                      refine sc_M_line Iw713 (by omega) (by omega) (fun v765 w766 Iw766 tw766 lv765 uv765 => ?_)
                                      have c768 := sf_mf tw766 (p := 1) (j := 0) rfl
                                      have c769 := sf_mf tw766 (p := 71) (j := 1) rfl
                                      have c770 := sf_mf tw766 (p := 1) (j := 5) rfl
                                      have c771 := sf_mf tw766 (p := 71) (j := 5) rfl
                                      have c772 := sf_mf tw766 (p := 13) (j := 1) rfl
                                      have c773 := sf_mf tw766 (p := 71) (j := 10) rfl
                                      have c774 := sf_mf tw766 (p := 21) (j := 1) rfl
                                      have c775 := sf_mf tw766 (p := 71) (j := 18) rfl
                                      have c776 := sf_mf tw766 (p := 35) (j := 0) rfl
                                      have c777 := sf_mf tw766 (p := 71) (j := 35) rfl
                                      have c778 := sf_ma tw766 (p := 3) rfl
                                      have c779 := sf_ma tw766 (p := 72) rfl
                                      have c780 := sf_mg tw766 (p := 10) rfl
                                      have c781 := sf_ma tw766 (p := 93) rfl
                                      have c782 := sf_mL tw766 (p := 130) rfl
                                      refine sf_istore (L' := [(5, .inl (.int v712)), (0, .inl (.ref 100000)), (1, .inl (.ref 0)), (2, .inl (.ref 71)), (3, .inl (.ref 130)), (4, .inl (.int x4))]) rfl ?_
                                      show kt_W_law_1421 N xs K _ _ _ _ _
                                      refine sf_iinc (L' := [(6, .inl (.int v765)), (5, .inl (.int v712)), (0, .inl (.ref 100000)), (1, .inl (.ref 0)), (2, .inl (.ref 71)), (3, .inl (.ref 130))]) (x := x4) sf_c8 rfl rfl (by omega) (fun v783 ev783 => ?_)
                                      refine sf_can (L' := [(0, .inl (.ref 100000)), (1, .inl (.ref 0)), (2, .inl (.ref 71)), (3, .inl (.ref 130)), (4, .inl (.int v783))]) rfl ?_
                                      exact ih _ _ _ _ Iw766 (by omega) (by omega) (by omega) (by omega) (by rw [c768, c715]; rw [c769, c716]; rw [c770, c717]; rw [c771, c718]; rw [c772, c719]; rw [c773, c720]; rw [c774, c721]; rw [c775, c722]; rw [c776, c723]; rw [c777, c724]; omega) (by rw [c778, c725]; rw [c779, c726]; rw [c769, c716]; first | exact f_1 | exact hJ) (by rw [c780, c727]; rw [c781, c728]; first | exact f_2 | exact hK2) (by omega)
                                · clear h642
                                  refine sf_sw1 sf_c14 (fun h784 => ?_) (fun h784 => ?_)
                                  · refine sf_aload rfl ?_
                                    refine sf_aload rfl ?_
                                    refine sf_iload rfl ?_
                                    refine sf_iconst sf_c1 (fun z785 ez785 => ?_)
                                    refine sf_iadd (by omega) (fun v786 ev786 => ?_)
                                    refine sf_sldk (x := x4) (k := 1) (by omega) (by omega) (by omega) ?_
                                    clear ev786 ez785
                                    refine sf_aload rfl ?_
                                    refine sf_iload rfl ?_
                                    refine sf_iconst sf_c2 (fun z787 ez787 => ?_)
                                    refine sf_iadd (by omega) (fun v788 ev788 => ?_)
                                    refine sf_sldk (x := x4) (k := 2) (by omega) (by omega) (by omega) ?_
                                    clear ev788 ez787
                                    refine sf_aload rfl ?_
                                    refine sf_iload rfl ?_
                                    refine sf_iconst sf_c3 (fun z789 ez789 => ?_)
                                    refine sf_iadd (by omega) (fun v790 ev790 => ?_)
                                    refine sf_sldk (x := x4) (k := 3) (by omega) (by omega) (by omega) ?_
                                    clear ev790 ez789
                                    refine sf_callv4 rfl (by omega) (by omega) ?_
                                    refine sc_W_charge_0 I_w  (fun v791 w792 Iw792 tw792 lv791 uv791 => ?_)
                                    have c794 := sf_mf tw792 (p := 1) (j := 0) rfl
                                    have c795 := sf_mf tw792 (p := 71) (j := 1) rfl
                                    have c796 := sf_mf tw792 (p := 1) (j := 5) rfl
                                    have c797 := sf_mf tw792 (p := 71) (j := 5) rfl
                                    have c798 := sf_mf tw792 (p := 13) (j := 1) rfl
                                    have c799 := sf_mf tw792 (p := 71) (j := 10) rfl
                                    have c800 := sf_mf tw792 (p := 21) (j := 1) rfl
                                    have c801 := sf_mf tw792 (p := 71) (j := 18) rfl
                                    have c802 := sf_mf tw792 (p := 35) (j := 0) rfl
                                    have c803 := sf_mf tw792 (p := 71) (j := 35) rfl
                                    have c804 := sf_ma tw792 (p := 3) rfl
                                    have c805 := sf_ma tw792 (p := 72) rfl
                                    have c806 := sf_mg tw792 (p := 10) rfl
                                    have c807 := sf_ma tw792 (p := 93) rfl
                                    have c808 := sf_mL tw792 (p := 130) rfl
                                    refine sf_istore (L' := [(0, .inl (.ref 100000)), (1, .inl (.ref 0)), (2, .inl (.ref 71)), (3, .inl (.ref 130)), (4, .inl (.int x4))]) rfl ?_
                                    refine sf_aload rfl ?_
                                    refine sf_aload rfl ?_
                                    refine sf_iload rfl ?_
                                    refine sf_iconst sf_c1 (fun z809 ez809 => ?_)
                                    refine sf_iadd (by omega) (fun v810 ev810 => ?_)
                                    refine sf_sldk (x := x4) (k := 1) (by omega) (by omega) (by omega) ?_
                                    clear ev810 ez809
                                    refine sf_aload rfl ?_
                                    refine sf_iload rfl ?_
                                    refine sf_iconst sf_c2 (fun z811 ez811 => ?_)
                                    refine sf_iadd (by omega) (fun v812 ev812 => ?_)
                                    refine sf_sldk (x := x4) (k := 2) (by omega) (by omega) (by omega) ?_
                                    clear ev812 ez811
                                    refine sf_aload rfl ?_
                                    refine sf_iload rfl ?_
                                    refine sf_iconst sf_c3 (fun z813 ez813 => ?_)
                                    refine sf_iadd (by omega) (fun v814 ev814 => ?_)
                                    refine sf_sldk (x := x4) (k := 3) (by omega) (by omega) (by omega) ?_
                                    clear ev814 ez813
                                    refine sf_callv4 rfl (by omega) (by omega) ?_
                                    refine sf_rv Iw792 rfl ?_
                                    refine sc_M_charge Iw792  (fun w815 Iw815 tw815 => ?_)
                                    have c817 := sf_mf tw815 (p := 1) (j := 0) rfl
                                    have c818 := sf_mf tw815 (p := 71) (j := 1) rfl
                                    have c819 := sf_mf tw815 (p := 1) (j := 5) rfl
                                    have c820 := sf_mf tw815 (p := 71) (j := 5) rfl
                                    have c821 := sf_mf tw815 (p := 13) (j := 1) rfl
                                    have c822 := sf_mf tw815 (p := 71) (j := 10) rfl
                                    have c823 := sf_mf tw815 (p := 21) (j := 1) rfl
                                    have c824 := sf_mf tw815 (p := 71) (j := 18) rfl
                                    have c825 := sf_mf tw815 (p := 35) (j := 0) rfl
                                    have c826 := sf_mf tw815 (p := 71) (j := 35) rfl
                                    have c827 := sf_ma tw815 (p := 3) rfl
                                    have c828 := sf_ma tw815 (p := 72) rfl
                                    have c829 := sf_mg tw815 (p := 10) rfl
                                    have c830 := sf_ma tw815 (p := 93) rfl
                                    have c831 := sf_mL tw815 (p := 130) rfl
                                    show kt_W_law_1421 N xs K _ _ _ _ _
                                    refine sf_iinc (L' := [(5, .inl (.int v791)), (0, .inl (.ref 100000)), (1, .inl (.ref 0)), (2, .inl (.ref 71)), (3, .inl (.ref 130))]) (x := x4) sf_c8 rfl rfl (by omega) (fun v832 ev832 => ?_)
                                    refine sf_can (L' := [(0, .inl (.ref 100000)), (1, .inl (.ref 0)), (2, .inl (.ref 71)), (3, .inl (.ref 130)), (4, .inl (.int v832))]) rfl ?_
                                    exact ih _ _ _ _ Iw815 (by omega) (by omega) (by omega) (by omega) (by rw [c817, c794]; rw [c818, c795]; rw [c819, c796]; rw [c820, c797]; rw [c821, c798]; rw [c822, c799]; rw [c823, c800]; rw [c824, c801]; rw [c825, c802]; rw [c826, c803]; omega) (by rw [c827, c804]; rw [c828, c805]; rw [c818, c795]; first | exact f_1 | exact hJ) (by rw [c829, c806]; rw [c830, c807]; first | exact f_2 | exact hK2) (by omega)
                                  · clear h784
                                    refine sf_sw1 sf_c15 (fun h833 => ?_) (fun h833 => ?_)
                                    · refine sf_aload rfl ?_
                                      refine sf_aload rfl ?_
                                      refine sf_iload rfl ?_
                                      refine sf_iconst sf_c1 (fun z834 ez834 => ?_)
                                      refine sf_iadd (by omega) (fun v835 ev835 => ?_)
                                      refine sf_sldk (x := x4) (k := 1) (by omega) (by omega) (by omega) ?_
                                      clear ev835 ez834
                                      refine sf_aload rfl ?_
                                      refine sf_iload rfl ?_
                                      refine sf_iconst sf_c2 (fun z836 ez836 => ?_)
                                      refine sf_iadd (by omega) (fun v837 ev837 => ?_)
                                      refine sf_sldk (x := x4) (k := 2) (by omega) (by omega) (by omega) ?_
                                      clear ev837 ez836
                                      refine sf_aload rfl ?_
                                      refine sf_iload rfl ?_
                                      refine sf_iconst sf_c3 (fun z838 ez838 => ?_)
                                      refine sf_iadd (by omega) (fun v839 ev839 => ?_)
                                      refine sf_sldk (x := x4) (k := 3) (by omega) (by omega) (by omega) ?_
                                      clear ev839 ez838
                                      refine sf_aload rfl ?_
                                      refine sf_callv5 rfl (by omega) (by omega) ?_
                                      refine sc_W_lineOf_0_130 I_w  (fun v840 w841 Iw841 tw841 lv840 uv840 => ?_)
                                      have c843 := sf_mf tw841 (p := 1) (j := 0) rfl
                                      have c844 := sf_mf tw841 (p := 71) (j := 1) rfl
                                      have c845 := sf_mf tw841 (p := 1) (j := 5) rfl
                                      have c846 := sf_mf tw841 (p := 71) (j := 5) rfl
                                      have c847 := sf_mf tw841 (p := 13) (j := 1) rfl
                                      have c848 := sf_mf tw841 (p := 71) (j := 10) rfl
                                      have c849 := sf_mf tw841 (p := 21) (j := 1) rfl
                                      have c850 := sf_mf tw841 (p := 71) (j := 18) rfl
                                      have c851 := sf_mf tw841 (p := 35) (j := 0) rfl
                                      have c852 := sf_mf tw841 (p := 71) (j := 35) rfl
                                      have c853 := sf_ma tw841 (p := 3) rfl
                                      have c854 := sf_ma tw841 (p := 72) rfl
                                      have c855 := sf_mg tw841 (p := 10) rfl
                                      have c856 := sf_ma tw841 (p := 93) rfl
                                      refine sf_istore (L' := [(0, .inl (.ref 100000)), (1, .inl (.ref 0)), (2, .inl (.ref 71)), (3, .inl (.ref 130)), (4, .inl (.int x4))]) rfl ?_
                                      refine sf_aload rfl ?_
                                      refine sf_aload rfl ?_
                                      refine sf_iload rfl ?_
                                      refine sf_iconst sf_c1 (fun z857 ez857 => ?_)
                                      refine sf_iadd (by omega) (fun v858 ev858 => ?_)
                                      refine sf_sldk (x := x4) (k := 1) (by omega) (by omega) (by omega) ?_
                                      clear ev858 ez857
                                      refine sf_aload rfl ?_
                                      refine sf_iload rfl ?_
                                      refine sf_iconst sf_c2 (fun z859 ez859 => ?_)
                                      refine sf_iadd (by omega) (fun v860 ev860 => ?_)
                                      refine sf_sldk (x := x4) (k := 2) (by omega) (by omega) (by omega) ?_
                                      clear ev860 ez859
                                      refine sf_aload rfl ?_
                                      refine sf_iload rfl ?_
                                      refine sf_iconst sf_c3 (fun z861 ez861 => ?_)
                                      refine sf_iadd (by omega) (fun v862 ev862 => ?_)
                                      refine sf_sldk (x := x4) (k := 3) (by omega) (by omega) (by omega) ?_
                                      clear ev862 ez861
                                      refine sf_callv4 rfl (by omega) (by omega) ?_
                                      refine sf_rv Iw841 rfl ?_
                                      refine sc_M_lineOf Iw841  (fun v863 w864 Iw864 tw864 => ?_)
                                      have c866 := sf_mf tw864 (p := 1) (j := 0) rfl
                                      have c867 := sf_mf tw864 (p := 71) (j := 1) rfl
                                      have c868 := sf_mf tw864 (p := 1) (j := 5) rfl
                                      have c869 := sf_mf tw864 (p := 71) (j := 5) rfl
                                      have c870 := sf_mf tw864 (p := 13) (j := 1) rfl
                                      have c871 := sf_mf tw864 (p := 71) (j := 10) rfl
                                      have c872 := sf_mf tw864 (p := 21) (j := 1) rfl
                                      have c873 := sf_mf tw864 (p := 71) (j := 18) rfl
                                      have c874 := sf_mf tw864 (p := 35) (j := 0) rfl
                                      have c875 := sf_mf tw864 (p := 71) (j := 35) rfl
                                      have c876 := sf_ma tw864 (p := 3) rfl
                                      have c877 := sf_ma tw864 (p := 72) rfl
                                      have c878 := sf_mg tw864 (p := 10) rfl
                                      have c879 := sf_ma tw864 (p := 93) rfl
                                      have c880 := sf_mL tw864 (p := 130) rfl
                                      refine sf_lstore (L' := [(5, .inl (.int v840)), (0, .inl (.ref 100000)), (1, .inl (.ref 0)), (2, .inl (.ref 71)), (3, .inl (.ref 130)), (4, .inl (.int x4))]) rfl ?_
                                      show kt_W_law_1421 N xs K _ _ _ _ _
                                      refine sf_iinc (L' := [(6, .inl (.long v863)), (5, .inl (.int v840)), (0, .inl (.ref 100000)), (1, .inl (.ref 0)), (2, .inl (.ref 71)), (3, .inl (.ref 130))]) (x := x4) sf_c8 rfl rfl (by omega) (fun v881 ev881 => ?_)
                                      refine sf_can (L' := [(0, .inl (.ref 100000)), (1, .inl (.ref 0)), (2, .inl (.ref 71)), (3, .inl (.ref 130)), (4, .inl (.int v881))]) rfl ?_
                                      exact ih _ _ _ _ Iw864 (by omega) (by omega) (by omega) (by omega) (by rw [c866, c843]; rw [c867, c844]; rw [c868, c845]; rw [c869, c846]; rw [c870, c847]; rw [c871, c848]; rw [c872, c849]; rw [c873, c850]; rw [c874, c851]; rw [c875, c852]; omega) (by rw [c876, c853]; rw [c877, c854]; rw [c867, c844]; first | exact f_1 | exact hJ) (by rw [c878, c855]; rw [c879, c856]; first | exact f_2 | exact hK2) (by omega)
                                    · clear h833
                                      refine sf_sw1 sf_c16 (fun h882 => ?_) (fun h882 => ?_)
                                      · refine sf_aload rfl ?_
                                        refine sf_aload rfl ?_
                                        refine sf_iload rfl ?_
                                        refine sf_iconst sf_c1 (fun z883 ez883 => ?_)
                                        refine sf_iadd (by omega) (fun v884 ev884 => ?_)
                                        refine sf_sldk (x := x4) (k := 1) (by omega) (by omega) (by omega) ?_
                                        clear ev884 ez883
                                        refine sf_aload rfl ?_
                                        refine sf_callv3 rfl (by omega) (by omega) ?_
                                        refine sc_W_accept_0_130 I_w  (fun v885 w886 Iw886 tw886 lv885 uv885 => ?_)
                                        have c888 := sf_mf tw886 (p := 1) (j := 0) rfl
                                        have c889 := sf_mf tw886 (p := 71) (j := 1) rfl
                                        have c890 := sf_mf tw886 (p := 1) (j := 5) rfl
                                        have c891 := sf_mf tw886 (p := 71) (j := 5) rfl
                                        have c892 := sf_mf tw886 (p := 13) (j := 1) rfl
                                        have c893 := sf_mf tw886 (p := 71) (j := 10) rfl
                                        have c894 := sf_mf tw886 (p := 21) (j := 1) rfl
                                        have c895 := sf_mf tw886 (p := 71) (j := 18) rfl
                                        have c896 := sf_mf tw886 (p := 35) (j := 0) rfl
                                        have c897 := sf_mf tw886 (p := 71) (j := 35) rfl
                                        have c898 := sf_ma tw886 (p := 3) rfl
                                        have c899 := sf_ma tw886 (p := 72) rfl
                                        have c900 := sf_mg tw886 (p := 10) rfl
                                        have c901 := sf_ma tw886 (p := 93) rfl
                                        refine sf_istore (L' := [(0, .inl (.ref 100000)), (1, .inl (.ref 0)), (2, .inl (.ref 71)), (3, .inl (.ref 130)), (4, .inl (.int x4))]) rfl ?_
                                        refine sf_aload rfl ?_
                                        refine sf_aload rfl ?_
                                        refine sf_iload rfl ?_
                                        refine sf_iconst sf_c1 (fun z902 ez902 => ?_)
                                        refine sf_iadd (by omega) (fun v903 ev903 => ?_)
                                        refine sf_sldk (x := x4) (k := 1) (by omega) (by omega) (by omega) ?_
                                        clear ev903 ez902
                                        refine sf_callv2 rfl (by omega) (by omega) ?_
                                        refine sf_rv Iw886 rfl ?_
                                        refine sc_M_accept Iw886  (fun v904 w905 Iw905 tw905 => ?_)
                                        have c907 := sf_mf tw905 (p := 1) (j := 0) rfl
                                        have c908 := sf_mf tw905 (p := 71) (j := 1) rfl
                                        have c909 := sf_mf tw905 (p := 1) (j := 5) rfl
                                        have c910 := sf_mf tw905 (p := 71) (j := 5) rfl
                                        have c911 := sf_mf tw905 (p := 13) (j := 1) rfl
                                        have c912 := sf_mf tw905 (p := 71) (j := 10) rfl
                                        have c913 := sf_mf tw905 (p := 21) (j := 1) rfl
                                        have c914 := sf_mf tw905 (p := 71) (j := 18) rfl
                                        have c915 := sf_mf tw905 (p := 35) (j := 0) rfl
                                        have c916 := sf_mf tw905 (p := 71) (j := 35) rfl
                                        have c917 := sf_ma tw905 (p := 3) rfl
                                        have c918 := sf_ma tw905 (p := 72) rfl
                                        have c919 := sf_mg tw905 (p := 10) rfl
                                        have c920 := sf_ma tw905 (p := 93) rfl
                                        have c921 := sf_mL tw905 (p := 130) rfl
                                        refine sf_lstore (L' := [(5, .inl (.int v885)), (0, .inl (.ref 100000)), (1, .inl (.ref 0)), (2, .inl (.ref 71)), (3, .inl (.ref 130)), (4, .inl (.int x4))]) rfl ?_
                                        show kt_W_law_1421 N xs K _ _ _ _ _
                                        refine sf_iinc (L' := [(6, .inl (.long v904)), (5, .inl (.int v885)), (0, .inl (.ref 100000)), (1, .inl (.ref 0)), (2, .inl (.ref 71)), (3, .inl (.ref 130))]) (x := x4) sf_c8 rfl rfl (by omega) (fun v922 ev922 => ?_)
                                        refine sf_can (L' := [(0, .inl (.ref 100000)), (1, .inl (.ref 0)), (2, .inl (.ref 71)), (3, .inl (.ref 130)), (4, .inl (.int v922))]) rfl ?_
                                        exact ih _ _ _ _ Iw905 (by omega) (by omega) (by omega) (by omega) (by rw [c907, c888]; rw [c908, c889]; rw [c909, c890]; rw [c910, c891]; rw [c911, c892]; rw [c912, c893]; rw [c913, c894]; rw [c914, c895]; rw [c915, c896]; rw [c916, c897]; omega) (by rw [c917, c898]; rw [c918, c899]; rw [c908, c889]; first | exact f_1 | exact hJ) (by rw [c919, c900]; rw [c920, c901]; first | exact f_2 | exact hK2) (by omega)
                                      · clear h882
                                        refine sf_sw1 sf_c17 (fun h923 => ?_) (fun h923 => ?_)
                                        · refine sf_aload rfl ?_
                                          refine sf_aload rfl ?_
                                          refine sf_iload rfl ?_
                                          refine sf_iconst sf_c1 (fun z924 ez924 => ?_)
                                          refine sf_iadd (by omega) (fun v925 ev925 => ?_)
                                          refine sf_sldk (x := x4) (k := 1) (by omega) (by omega) (by omega) ?_
                                          clear ev925 ez924
                                          refine sf_aload rfl ?_
                                          refine sf_iload rfl ?_
                                          refine sf_iconst sf_c2 (fun z926 ez926 => ?_)
                                          refine sf_iadd (by omega) (fun v927 ev927 => ?_)
                                          refine sf_sldk (x := x4) (k := 2) (by omega) (by omega) (by omega) ?_
                                          clear ev927 ez926
                                          refine sf_aload rfl ?_
                                          refine sf_iload rfl ?_
                                          refine sf_iconst sf_c3 (fun z928 ez928 => ?_)
                                          refine sf_iadd (by omega) (fun v929 ev929 => ?_)
                                          refine sf_sldk (x := x4) (k := 3) (by omega) (by omega) (by omega) ?_
                                          clear ev929 ez928
                                          refine sf_aload rfl ?_
                                          refine sf_iload rfl ?_
                                          refine sf_iconst sf_c4 (fun z930 ez930 => ?_)
                                          refine sf_iadd (by omega) (fun v931 ev931 => ?_)
                                          refine sf_sldk (x := x4) (k := 4) (by omega) (by omega) (by omega) ?_
                                          clear ev931 ez930
                                          refine sf_aload rfl ?_
                                          refine sf_callv6 rfl (by omega) (by omega) ?_
                                          refine sc_W_amend_0_130 I_w  (fun v932 w933 Iw933 tw933 lv932 uv932 => ?_)
                                          have c935 := sf_mf tw933 (p := 1) (j := 0) rfl
                                          have c936 := sf_mf tw933 (p := 71) (j := 1) rfl
                                          have c937 := sf_mf tw933 (p := 1) (j := 5) rfl
                                          have c938 := sf_mf tw933 (p := 71) (j := 5) rfl
                                          have c939 := sf_mf tw933 (p := 13) (j := 1) rfl
                                          have c940 := sf_mf tw933 (p := 71) (j := 10) rfl
                                          have c941 := sf_mf tw933 (p := 21) (j := 1) rfl
                                          have c942 := sf_mf tw933 (p := 71) (j := 18) rfl
                                          have c943 := sf_mf tw933 (p := 35) (j := 0) rfl
                                          have c944 := sf_mf tw933 (p := 71) (j := 35) rfl
                                          have c945 := sf_ma tw933 (p := 3) rfl
                                          have c946 := sf_ma tw933 (p := 72) rfl
                                          have c947 := sf_mg tw933 (p := 10) rfl
                                          have c948 := sf_ma tw933 (p := 93) rfl
                                          refine sf_istore (L' := [(0, .inl (.ref 100000)), (1, .inl (.ref 0)), (2, .inl (.ref 71)), (3, .inl (.ref 130)), (4, .inl (.int x4))]) rfl ?_
                                          refine sf_aload rfl ?_
                                          refine sf_aload rfl ?_
                                          refine sf_iload rfl ?_
                                          refine sf_iconst sf_c1 (fun z949 ez949 => ?_)
                                          refine sf_iadd (by omega) (fun v950 ev950 => ?_)
                                          refine sf_sldk (x := x4) (k := 1) (by omega) (by omega) (by omega) ?_
                                          clear ev950 ez949
                                          refine sf_aload rfl ?_
                                          refine sf_iload rfl ?_
                                          refine sf_iconst sf_c2 (fun z951 ez951 => ?_)
                                          refine sf_iadd (by omega) (fun v952 ev952 => ?_)
                                          refine sf_sldk (x := x4) (k := 2) (by omega) (by omega) (by omega) ?_
                                          clear ev952 ez951
                                          refine sf_aload rfl ?_
                                          refine sf_iload rfl ?_
                                          refine sf_iconst sf_c3 (fun z953 ez953 => ?_)
                                          refine sf_iadd (by omega) (fun v954 ev954 => ?_)
                                          refine sf_sldk (x := x4) (k := 3) (by omega) (by omega) (by omega) ?_
                                          clear ev954 ez953
                                          refine sf_aload rfl ?_
                                          refine sf_iload rfl ?_
                                          refine sf_iconst sf_c4 (fun z955 ez955 => ?_)
                                          refine sf_iadd (by omega) (fun v956 ev956 => ?_)
                                          refine sf_sldk (x := x4) (k := 4) (by omega) (by omega) (by omega) ?_
                                          clear ev956 ez955
                                          refine sf_callv5 rfl (by omega) (by omega) ?_
                                          refine sf_rv Iw933 rfl ?_
                                          refine sc_M_amend Iw933  (fun v957 w958 Iw958 tw958 => ?_)
                                          have c960 := sf_mf tw958 (p := 1) (j := 0) rfl
                                          have c961 := sf_mf tw958 (p := 71) (j := 1) rfl
                                          have c962 := sf_mf tw958 (p := 1) (j := 5) rfl
                                          have c963 := sf_mf tw958 (p := 71) (j := 5) rfl
                                          have c964 := sf_mf tw958 (p := 13) (j := 1) rfl
                                          have c965 := sf_mf tw958 (p := 71) (j := 10) rfl
                                          have c966 := sf_mf tw958 (p := 21) (j := 1) rfl
                                          have c967 := sf_mf tw958 (p := 71) (j := 18) rfl
                                          have c968 := sf_mf tw958 (p := 35) (j := 0) rfl
                                          have c969 := sf_mf tw958 (p := 71) (j := 35) rfl
                                          have c970 := sf_ma tw958 (p := 3) rfl
                                          have c971 := sf_ma tw958 (p := 72) rfl
                                          have c972 := sf_mg tw958 (p := 10) rfl
                                          have c973 := sf_ma tw958 (p := 93) rfl
                                          have c974 := sf_mL tw958 (p := 130) rfl
                                          refine sf_lstore (L' := [(5, .inl (.int v932)), (0, .inl (.ref 100000)), (1, .inl (.ref 0)), (2, .inl (.ref 71)), (3, .inl (.ref 130)), (4, .inl (.int x4))]) rfl ?_
                                          show kt_W_law_1421 N xs K _ _ _ _ _
                                          refine sf_iinc (L' := [(6, .inl (.long v957)), (5, .inl (.int v932)), (0, .inl (.ref 100000)), (1, .inl (.ref 0)), (2, .inl (.ref 71)), (3, .inl (.ref 130))]) (x := x4) sf_c8 rfl rfl (by omega) (fun v975 ev975 => ?_)
                                          refine sf_can (L' := [(0, .inl (.ref 100000)), (1, .inl (.ref 0)), (2, .inl (.ref 71)), (3, .inl (.ref 130)), (4, .inl (.int v975))]) rfl ?_
                                          exact ih _ _ _ _ Iw958 (by omega) (by omega) (by omega) (by omega) (by rw [c960, c935]; rw [c961, c936]; rw [c962, c937]; rw [c963, c938]; rw [c964, c939]; rw [c965, c940]; rw [c966, c941]; rw [c967, c942]; rw [c968, c943]; rw [c969, c944]; omega) (by rw [c970, c945]; rw [c971, c946]; rw [c961, c936]; first | exact f_1 | exact hJ) (by rw [c972, c947]; rw [c973, c948]; first | exact f_2 | exact hK2) (by omega)
                                        · clear h923
                                          refine sf_sw1 sf_c18 (fun h976 => ?_) (fun h976 => ?_)
                                          · refine sf_aload rfl ?_
                                            refine sf_aload rfl ?_
                                            refine sf_iload rfl ?_
                                            refine sf_iconst sf_c1 (fun z977 ez977 => ?_)
                                            refine sf_iadd (by omega) (fun v978 ev978 => ?_)
                                            refine sf_sldk (x := x4) (k := 1) (by omega) (by omega) (by omega) ?_
                                            clear ev978 ez977
                                            refine sf_aload rfl ?_
                                            refine sf_iload rfl ?_
                                            refine sf_iconst sf_c2 (fun z979 ez979 => ?_)
                                            refine sf_iadd (by omega) (fun v980 ev980 => ?_)
                                            refine sf_sldk (x := x4) (k := 2) (by omega) (by omega) (by omega) ?_
                                            clear ev980 ez979
                                            refine sf_aload rfl ?_
                                            refine sf_callv4 rfl (by omega) (by omega) ?_
                                            refine sc_W_release_0_130 I_w  (fun v981 w982 Iw982 tw982 lv981 uv981 => ?_)
                                            have c984 := sf_mf tw982 (p := 1) (j := 0) rfl
                                            have c985 := sf_mf tw982 (p := 71) (j := 1) rfl
                                            have c986 := sf_mf tw982 (p := 1) (j := 5) rfl
                                            have c987 := sf_mf tw982 (p := 71) (j := 5) rfl
                                            have c988 := sf_mf tw982 (p := 13) (j := 1) rfl
                                            have c989 := sf_mf tw982 (p := 71) (j := 10) rfl
                                            have c990 := sf_mf tw982 (p := 21) (j := 1) rfl
                                            have c991 := sf_mf tw982 (p := 71) (j := 18) rfl
                                            have c992 := sf_mf tw982 (p := 35) (j := 0) rfl
                                            have c993 := sf_mf tw982 (p := 71) (j := 35) rfl
                                            have c994 := sf_ma tw982 (p := 3) rfl
                                            have c995 := sf_ma tw982 (p := 72) rfl
                                            have c996 := sf_mg tw982 (p := 10) rfl
                                            have c997 := sf_ma tw982 (p := 93) rfl
                                            refine sf_istore (L' := [(0, .inl (.ref 100000)), (1, .inl (.ref 0)), (2, .inl (.ref 71)), (3, .inl (.ref 130)), (4, .inl (.int x4))]) rfl ?_
                                            refine sf_aload rfl ?_
                                            refine sf_aload rfl ?_
                                            refine sf_iload rfl ?_
                                            refine sf_iconst sf_c1 (fun z998 ez998 => ?_)
                                            refine sf_iadd (by omega) (fun v999 ev999 => ?_)
                                            refine sf_sldk (x := x4) (k := 1) (by omega) (by omega) (by omega) ?_
                                            clear ev999 ez998
                                            refine sf_aload rfl ?_
                                            refine sf_iload rfl ?_
                                            refine sf_iconst sf_c2 (fun z1000 ez1000 => ?_)
                                            refine sf_iadd (by omega) (fun v1001 ev1001 => ?_)
                                            refine sf_sldk (x := x4) (k := 2) (by omega) (by omega) (by omega) ?_
                                            clear ev1001 ez1000
                                            refine sf_callv3 rfl (by omega) (by omega) ?_
                                            refine sf_rv Iw982 rfl ?_
                                            refine sc_M_release Iw982  (fun v1002 w1003 Iw1003 tw1003 => ?_)
                                            have c1005 := sf_mf tw1003 (p := 1) (j := 0) rfl
                                            have c1006 := sf_mf tw1003 (p := 71) (j := 1) rfl
                                            have c1007 := sf_mf tw1003 (p := 1) (j := 5) rfl
                                            have c1008 := sf_mf tw1003 (p := 71) (j := 5) rfl
                                            have c1009 := sf_mf tw1003 (p := 13) (j := 1) rfl
                                            have c1010 := sf_mf tw1003 (p := 71) (j := 10) rfl
                                            have c1011 := sf_mf tw1003 (p := 21) (j := 1) rfl
                                            have c1012 := sf_mf tw1003 (p := 71) (j := 18) rfl
                                            have c1013 := sf_mf tw1003 (p := 35) (j := 0) rfl
                                            have c1014 := sf_mf tw1003 (p := 71) (j := 35) rfl
                                            have c1015 := sf_ma tw1003 (p := 3) rfl
                                            have c1016 := sf_ma tw1003 (p := 72) rfl
                                            have c1017 := sf_mg tw1003 (p := 10) rfl
                                            have c1018 := sf_ma tw1003 (p := 93) rfl
                                            have c1019 := sf_mL tw1003 (p := 130) rfl
                                            refine sf_lstore (L' := [(5, .inl (.int v981)), (0, .inl (.ref 100000)), (1, .inl (.ref 0)), (2, .inl (.ref 71)), (3, .inl (.ref 130)), (4, .inl (.int x4))]) rfl ?_
                                            show kt_W_law_1421 N xs K _ _ _ _ _
                                            refine sf_iinc (L' := [(6, .inl (.long v1002)), (5, .inl (.int v981)), (0, .inl (.ref 100000)), (1, .inl (.ref 0)), (2, .inl (.ref 71)), (3, .inl (.ref 130))]) (x := x4) sf_c8 rfl rfl (by omega) (fun v1020 ev1020 => ?_)
                                            refine sf_can (L' := [(0, .inl (.ref 100000)), (1, .inl (.ref 0)), (2, .inl (.ref 71)), (3, .inl (.ref 130)), (4, .inl (.int v1020))]) rfl ?_
                                            exact ih _ _ _ _ Iw1003 (by omega) (by omega) (by omega) (by omega) (by rw [c1005, c984]; rw [c1006, c985]; rw [c1007, c986]; rw [c1008, c987]; rw [c1009, c988]; rw [c1010, c989]; rw [c1011, c990]; rw [c1012, c991]; rw [c1013, c992]; rw [c1014, c993]; omega) (by rw [c1015, c994]; rw [c1016, c995]; rw [c1006, c985]; first | exact f_1 | exact hJ) (by rw [c1017, c996]; rw [c1018, c997]; first | exact f_2 | exact hK2) (by omega)
                                          · clear h976
                                            refine sf_sw1 sf_c19 (fun h1021 => ?_) (fun h1021 => ?_)
                                            · refine sf_aload rfl ?_
                                              refine sf_aload rfl ?_
                                              refine sf_iload rfl ?_
                                              refine sf_iconst sf_c1 (fun z1022 ez1022 => ?_)
                                              refine sf_iadd (by omega) (fun v1023 ev1023 => ?_)
                                              refine sf_sldk (x := x4) (k := 1) (by omega) (by omega) (by omega) ?_
                                              clear ev1023 ez1022
                                              refine sf_aload rfl ?_
                                              refine sf_iload rfl ?_
                                              refine sf_iconst sf_c2 (fun z1024 ez1024 => ?_)
                                              refine sf_iadd (by omega) (fun v1025 ev1025 => ?_)
                                              refine sf_sldk (x := x4) (k := 2) (by omega) (by omega) (by omega) ?_
                                              clear ev1025 ez1024
                                              refine sf_aload rfl ?_
                                              refine sf_callv4 rfl (by omega) (by omega) ?_
                                              refine sc_W_export_0_130 I_w  (fun v1026 w1027 Iw1027 tw1027 lv1026 uv1026 => ?_)
                                              have c1029 := sf_mf tw1027 (p := 1) (j := 0) rfl
                                              have c1030 := sf_mf tw1027 (p := 71) (j := 1) rfl
                                              have c1031 := sf_mf tw1027 (p := 1) (j := 5) rfl
                                              have c1032 := sf_mf tw1027 (p := 71) (j := 5) rfl
                                              have c1033 := sf_mf tw1027 (p := 13) (j := 1) rfl
                                              have c1034 := sf_mf tw1027 (p := 71) (j := 10) rfl
                                              have c1035 := sf_mf tw1027 (p := 21) (j := 1) rfl
                                              have c1036 := sf_mf tw1027 (p := 71) (j := 18) rfl
                                              have c1037 := sf_mf tw1027 (p := 35) (j := 0) rfl
                                              have c1038 := sf_mf tw1027 (p := 71) (j := 35) rfl
                                              have c1039 := sf_ma tw1027 (p := 3) rfl
                                              have c1040 := sf_ma tw1027 (p := 72) rfl
                                              have c1041 := sf_mg tw1027 (p := 10) rfl
                                              have c1042 := sf_ma tw1027 (p := 93) rfl
                                              refine sf_istore (L' := [(0, .inl (.ref 100000)), (1, .inl (.ref 0)), (2, .inl (.ref 71)), (3, .inl (.ref 130)), (4, .inl (.int x4))]) rfl ?_
                                              refine sf_aload rfl ?_
                                              refine sf_aload rfl ?_
                                              refine sf_iload rfl ?_
                                              refine sf_iconst sf_c1 (fun z1043 ez1043 => ?_)
                                              refine sf_iadd (by omega) (fun v1044 ev1044 => ?_)
                                              refine sf_sldk (x := x4) (k := 1) (by omega) (by omega) (by omega) ?_
                                              clear ev1044 ez1043
                                              refine sf_aload rfl ?_
                                              refine sf_iload rfl ?_
                                              refine sf_iconst sf_c2 (fun z1045 ez1045 => ?_)
                                              refine sf_iadd (by omega) (fun v1046 ev1046 => ?_)
                                              refine sf_sldk (x := x4) (k := 2) (by omega) (by omega) (by omega) ?_
                                              clear ev1046 ez1045
                                              refine sf_callv3 rfl (by omega) (by omega) ?_
                                              refine sf_rv Iw1027 rfl ?_
                                              refine sc_M_export Iw1027  (fun v1047 w1048 Iw1048 tw1048 => ?_)
                                              have c1050 := sf_mf tw1048 (p := 1) (j := 0) rfl
                                              have c1051 := sf_mf tw1048 (p := 71) (j := 1) rfl
                                              have c1052 := sf_mf tw1048 (p := 1) (j := 5) rfl
                                              have c1053 := sf_mf tw1048 (p := 71) (j := 5) rfl
                                              have c1054 := sf_mf tw1048 (p := 13) (j := 1) rfl
                                              have c1055 := sf_mf tw1048 (p := 71) (j := 10) rfl
                                              have c1056 := sf_mf tw1048 (p := 21) (j := 1) rfl
                                              have c1057 := sf_mf tw1048 (p := 71) (j := 18) rfl
                                              have c1058 := sf_mf tw1048 (p := 35) (j := 0) rfl
                                              have c1059 := sf_mf tw1048 (p := 71) (j := 35) rfl
                                              have c1060 := sf_ma tw1048 (p := 3) rfl
                                              have c1061 := sf_ma tw1048 (p := 72) rfl
                                              have c1062 := sf_mg tw1048 (p := 10) rfl
                                              have c1063 := sf_ma tw1048 (p := 93) rfl
                                              have c1064 := sf_mL tw1048 (p := 130) rfl
                                              refine sf_lstore (L' := [(5, .inl (.int v1026)), (0, .inl (.ref 100000)), (1, .inl (.ref 0)), (2, .inl (.ref 71)), (3, .inl (.ref 130)), (4, .inl (.int x4))]) rfl ?_
                                              show kt_W_law_1421 N xs K _ _ _ _ _
                                              refine sf_iinc (L' := [(6, .inl (.long v1047)), (5, .inl (.int v1026)), (0, .inl (.ref 100000)), (1, .inl (.ref 0)), (2, .inl (.ref 71)), (3, .inl (.ref 130))]) (x := x4) sf_c8 rfl rfl (by omega) (fun v1065 ev1065 => ?_)
                                              refine sf_can (L' := [(0, .inl (.ref 100000)), (1, .inl (.ref 0)), (2, .inl (.ref 71)), (3, .inl (.ref 130)), (4, .inl (.int v1065))]) rfl ?_
                                              exact ih _ _ _ _ Iw1048 (by omega) (by omega) (by omega) (by omega) (by rw [c1050, c1029]; rw [c1051, c1030]; rw [c1052, c1031]; rw [c1053, c1032]; rw [c1054, c1033]; rw [c1055, c1034]; rw [c1056, c1035]; rw [c1057, c1036]; rw [c1058, c1037]; rw [c1059, c1038]; omega) (by rw [c1060, c1039]; rw [c1061, c1040]; rw [c1051, c1030]; first | exact f_1 | exact hJ) (by rw [c1062, c1041]; rw [c1063, c1042]; first | exact f_2 | exact hK2) (by omega)
                                            · clear h1021
                                              refine sf_sw1 sf_c20 (fun h1066 => ?_) (fun h1066 => ?_)
                                              · refine sf_aload rfl ?_
                                                refine sf_aload rfl ?_
                                                refine sf_iload rfl ?_
                                                refine sf_iconst sf_c1 (fun z1067 ez1067 => ?_)
                                                refine sf_iadd (by omega) (fun v1068 ev1068 => ?_)
                                                refine sf_sldk (x := x4) (k := 1) (by omega) (by omega) (by omega) ?_
                                                clear ev1068 ez1067
                                                refine sf_aload rfl ?_
                                                refine sf_iload rfl ?_
                                                refine sf_iconst sf_c2 (fun z1069 ez1069 => ?_)
                                                refine sf_iadd (by omega) (fun v1070 ev1070 => ?_)
                                                refine sf_sldk (x := x4) (k := 2) (by omega) (by omega) (by omega) ?_
                                                clear ev1070 ez1069
                                                refine sf_aload rfl ?_
                                                refine sf_iload rfl ?_
                                                refine sf_iconst sf_c3 (fun z1071 ez1071 => ?_)
                                                refine sf_iadd (by omega) (fun v1072 ev1072 => ?_)
                                                refine sf_sldk (x := x4) (k := 3) (by omega) (by omega) (by omega) ?_
                                                clear ev1072 ez1071
                                                refine sf_aload rfl ?_
                                                refine sf_iload rfl ?_
                                                refine sf_iconst sf_c4 (fun z1073 ez1073 => ?_)
                                                refine sf_iadd (by omega) (fun v1074 ev1074 => ?_)
                                                refine sf_sldk (x := x4) (k := 4) (by omega) (by omega) (by omega) ?_
                                                clear ev1074 ez1073
                                                refine sf_aload rfl ?_
                                                refine sf_callv6 rfl (by omega) (by omega) ?_
                                                refine sc_W_work_0_130 I_w  (fun v1075 w1076 Iw1076 tw1076 lv1075 uv1075 => ?_)
                                                have c1078 := sf_mf tw1076 (p := 1) (j := 0) rfl
                                                have c1079 := sf_mf tw1076 (p := 71) (j := 1) rfl
                                                have c1080 := sf_mf tw1076 (p := 1) (j := 5) rfl
                                                have c1081 := sf_mf tw1076 (p := 71) (j := 5) rfl
                                                have c1082 := sf_mf tw1076 (p := 13) (j := 1) rfl
                                                have c1083 := sf_mf tw1076 (p := 71) (j := 10) rfl
                                                have c1084 := sf_mf tw1076 (p := 21) (j := 1) rfl
                                                have c1085 := sf_mf tw1076 (p := 71) (j := 18) rfl
                                                have c1086 := sf_mf tw1076 (p := 35) (j := 0) rfl
                                                have c1087 := sf_mf tw1076 (p := 71) (j := 35) rfl
                                                have c1088 := sf_ma tw1076 (p := 3) rfl
                                                have c1089 := sf_ma tw1076 (p := 72) rfl
                                                have c1090 := sf_mg tw1076 (p := 10) rfl
                                                have c1091 := sf_ma tw1076 (p := 93) rfl
                                                refine sf_istore (L' := [(0, .inl (.ref 100000)), (1, .inl (.ref 0)), (2, .inl (.ref 71)), (3, .inl (.ref 130)), (4, .inl (.int x4))]) rfl ?_
                                                refine sf_aload rfl ?_
                                                refine sf_aload rfl ?_
                                                refine sf_iload rfl ?_
                                                refine sf_iconst sf_c1 (fun z1092 ez1092 => ?_)
                                                refine sf_iadd (by omega) (fun v1093 ev1093 => ?_)
                                                refine sf_sldk (x := x4) (k := 1) (by omega) (by omega) (by omega) ?_
                                                clear ev1093 ez1092
                                                refine sf_aload rfl ?_
                                                refine sf_iload rfl ?_
                                                refine sf_iconst sf_c2 (fun z1094 ez1094 => ?_)
                                                refine sf_iadd (by omega) (fun v1095 ev1095 => ?_)
                                                refine sf_sldk (x := x4) (k := 2) (by omega) (by omega) (by omega) ?_
                                                clear ev1095 ez1094
                                                refine sf_aload rfl ?_
                                                refine sf_iload rfl ?_
                                                refine sf_iconst sf_c3 (fun z1096 ez1096 => ?_)
                                                refine sf_iadd (by omega) (fun v1097 ev1097 => ?_)
                                                refine sf_sldk (x := x4) (k := 3) (by omega) (by omega) (by omega) ?_
                                                clear ev1097 ez1096
                                                refine sf_aload rfl ?_
                                                refine sf_iload rfl ?_
                                                refine sf_iconst sf_c4 (fun z1098 ez1098 => ?_)
                                                refine sf_iadd (by omega) (fun v1099 ev1099 => ?_)
                                                refine sf_sldk (x := x4) (k := 4) (by omega) (by omega) (by omega) ?_
                                                clear ev1099 ez1098
                                                refine sf_callv5 rfl (by omega) (by omega) ?_
                                                refine sf_rv Iw1076 rfl ?_
                                                refine sc_M_work Iw1076  (fun v1100 w1101 Iw1101 tw1101 lv1100 uv1100 => ?_)
                                                have c1103 := sf_mf tw1101 (p := 1) (j := 0) rfl
                                                have c1104 := sf_mf tw1101 (p := 71) (j := 1) rfl
                                                have c1105 := sf_mf tw1101 (p := 1) (j := 5) rfl
                                                have c1106 := sf_mf tw1101 (p := 71) (j := 5) rfl
                                                have c1107 := sf_mf tw1101 (p := 13) (j := 1) rfl
                                                have c1108 := sf_mf tw1101 (p := 71) (j := 10) rfl
                                                have c1109 := sf_mf tw1101 (p := 21) (j := 1) rfl
                                                have c1110 := sf_mf tw1101 (p := 71) (j := 18) rfl
                                                have c1111 := sf_mf tw1101 (p := 35) (j := 0) rfl
                                                have c1112 := sf_mf tw1101 (p := 71) (j := 35) rfl
                                                have c1113 := sf_ma tw1101 (p := 3) rfl
                                                have c1114 := sf_ma tw1101 (p := 72) rfl
                                                have c1115 := sf_mg tw1101 (p := 10) rfl
                                                have c1116 := sf_ma tw1101 (p := 93) rfl
                                                have c1117 := sf_mL tw1101 (p := 130) rfl
                                                refine sf_istore (L' := [(5, .inl (.int v1075)), (0, .inl (.ref 100000)), (1, .inl (.ref 0)), (2, .inl (.ref 71)), (3, .inl (.ref 130)), (4, .inl (.int x4))]) rfl ?_
                                                show kt_W_law_1421 N xs K _ _ _ _ _
                                                refine sf_iinc (L' := [(6, .inl (.int v1100)), (5, .inl (.int v1075)), (0, .inl (.ref 100000)), (1, .inl (.ref 0)), (2, .inl (.ref 71)), (3, .inl (.ref 130))]) (x := x4) sf_c8 rfl rfl (by omega) (fun v1118 ev1118 => ?_)
                                                refine sf_can (L' := [(0, .inl (.ref 100000)), (1, .inl (.ref 0)), (2, .inl (.ref 71)), (3, .inl (.ref 130)), (4, .inl (.int v1118))]) rfl ?_
                                                exact ih _ _ _ _ Iw1101 (by omega) (by omega) (by omega) (by omega) (by rw [c1103, c1078]; rw [c1104, c1079]; rw [c1105, c1080]; rw [c1106, c1081]; rw [c1107, c1082]; rw [c1108, c1083]; rw [c1109, c1084]; rw [c1110, c1085]; rw [c1111, c1086]; rw [c1112, c1087]; omega) (by rw [c1113, c1088]; rw [c1114, c1089]; rw [c1104, c1079]; first | exact f_1 | exact hJ) (by rw [c1115, c1090]; rw [c1116, c1091]; first | exact f_2 | exact hK2) (by omega)
                                              · clear h1066
                                                refine sf_sw1 sf_c21 (fun h1119 => ?_) (fun h1119 => ?_)
                                                · refine sf_aload rfl ?_
                                                  refine sf_aload rfl ?_
                                                  refine sf_iload rfl ?_
                                                  refine sf_iconst sf_c1 (fun z1120 ez1120 => ?_)
                                                  refine sf_iadd (by omega) (fun v1121 ev1121 => ?_)
                                                  refine sf_sldk (x := x4) (k := 1) (by omega) (by omega) (by omega) ?_
                                                  clear ev1121 ez1120
                                                  refine sf_aload rfl ?_
                                                  refine sf_iload rfl ?_
                                                  refine sf_iconst sf_c2 (fun z1122 ez1122 => ?_)
                                                  refine sf_iadd (by omega) (fun v1123 ev1123 => ?_)
                                                  refine sf_sldk (x := x4) (k := 2) (by omega) (by omega) (by omega) ?_
                                                  clear ev1123 ez1122
                                                  refine sf_aload rfl ?_
                                                  refine sf_callv4 rfl (by omega) (by omega) ?_
                                                  refine sc_W_lot_0_130 I_w  (fun v1124 w1125 Iw1125 tw1125 lv1124 uv1124 => ?_)
                                                  have c1127 := sf_mf tw1125 (p := 1) (j := 0) rfl
                                                  have c1128 := sf_mf tw1125 (p := 71) (j := 1) rfl
                                                  have c1129 := sf_mf tw1125 (p := 1) (j := 5) rfl
                                                  have c1130 := sf_mf tw1125 (p := 71) (j := 5) rfl
                                                  have c1131 := sf_mf tw1125 (p := 13) (j := 1) rfl
                                                  have c1132 := sf_mf tw1125 (p := 71) (j := 10) rfl
                                                  have c1133 := sf_mf tw1125 (p := 21) (j := 1) rfl
                                                  have c1134 := sf_mf tw1125 (p := 71) (j := 18) rfl
                                                  have c1135 := sf_mf tw1125 (p := 35) (j := 0) rfl
                                                  have c1136 := sf_mf tw1125 (p := 71) (j := 35) rfl
                                                  have c1137 := sf_ma tw1125 (p := 3) rfl
                                                  have c1138 := sf_ma tw1125 (p := 72) rfl
                                                  have c1139 := sf_mg tw1125 (p := 10) rfl
                                                  have c1140 := sf_ma tw1125 (p := 93) rfl
                                                  refine sf_istore (L' := [(0, .inl (.ref 100000)), (1, .inl (.ref 0)), (2, .inl (.ref 71)), (3, .inl (.ref 130)), (4, .inl (.int x4))]) rfl ?_
                                                  refine sf_aload rfl ?_
                                                  refine sf_aload rfl ?_
                                                  refine sf_iload rfl ?_
                                                  refine sf_iconst sf_c1 (fun z1141 ez1141 => ?_)
                                                  refine sf_iadd (by omega) (fun v1142 ev1142 => ?_)
                                                  refine sf_sldk (x := x4) (k := 1) (by omega) (by omega) (by omega) ?_
                                                  clear ev1142 ez1141
                                                  refine sf_aload rfl ?_
                                                  refine sf_iload rfl ?_
                                                  refine sf_iconst sf_c2 (fun z1143 ez1143 => ?_)
                                                  refine sf_iadd (by omega) (fun v1144 ev1144 => ?_)
                                                  refine sf_sldk (x := x4) (k := 2) (by omega) (by omega) (by omega) ?_
                                                  clear ev1144 ez1143
                                                  refine sf_callv3 rfl (by omega) (by omega) ?_
                                                  refine sf_rv Iw1125 rfl ?_
                                                  refine sc_M_lot Iw1125  (fun v1145 w1146 Iw1146 tw1146 => ?_)
                                                  have c1148 := sf_mf tw1146 (p := 1) (j := 0) rfl
                                                  have c1149 := sf_mf tw1146 (p := 71) (j := 1) rfl
                                                  have c1150 := sf_mf tw1146 (p := 1) (j := 5) rfl
                                                  have c1151 := sf_mf tw1146 (p := 71) (j := 5) rfl
                                                  have c1152 := sf_mf tw1146 (p := 13) (j := 1) rfl
                                                  have c1153 := sf_mf tw1146 (p := 71) (j := 10) rfl
                                                  have c1154 := sf_mf tw1146 (p := 21) (j := 1) rfl
                                                  have c1155 := sf_mf tw1146 (p := 71) (j := 18) rfl
                                                  have c1156 := sf_mf tw1146 (p := 35) (j := 0) rfl
                                                  have c1157 := sf_mf tw1146 (p := 71) (j := 35) rfl
                                                  have c1158 := sf_ma tw1146 (p := 3) rfl
                                                  have c1159 := sf_ma tw1146 (p := 72) rfl
                                                  have c1160 := sf_mg tw1146 (p := 10) rfl
                                                  have c1161 := sf_ma tw1146 (p := 93) rfl
                                                  have c1162 := sf_mL tw1146 (p := 130) rfl
                                                  refine sf_lstore (L' := [(5, .inl (.int v1124)), (0, .inl (.ref 100000)), (1, .inl (.ref 0)), (2, .inl (.ref 71)), (3, .inl (.ref 130)), (4, .inl (.int x4))]) rfl ?_
                                                  show kt_W_law_1421 N xs K _ _ _ _ _
                                                  refine sf_iinc (L' := [(6, .inl (.long v1145)), (5, .inl (.int v1124)), (0, .inl (.ref 100000)), (1, .inl (.ref 0)), (2, .inl (.ref 71)), (3, .inl (.ref 130))]) (x := x4) sf_c8 rfl rfl (by omega) (fun v1163 ev1163 => ?_)
                                                  refine sf_can (L' := [(0, .inl (.ref 100000)), (1, .inl (.ref 0)), (2, .inl (.ref 71)), (3, .inl (.ref 130)), (4, .inl (.int v1163))]) rfl ?_
                                                  exact ih _ _ _ _ Iw1146 (by omega) (by omega) (by omega) (by omega) (by rw [c1148, c1127]; rw [c1149, c1128]; rw [c1150, c1129]; rw [c1151, c1130]; rw [c1152, c1131]; rw [c1153, c1132]; rw [c1154, c1133]; rw [c1155, c1134]; rw [c1156, c1135]; rw [c1157, c1136]; omega) (by rw [c1158, c1137]; rw [c1159, c1138]; rw [c1149, c1128]; first | exact f_1 | exact hJ) (by rw [c1160, c1139]; rw [c1161, c1140]; first | exact f_2 | exact hK2) (by omega)
                                                · clear h1119
                                                  refine sf_sw1 sf_c22 (fun h1164 => ?_) (fun h1164 => ?_)
                                                  · refine sf_aload rfl ?_
                                                    refine sf_aload rfl ?_
                                                    refine sf_iload rfl ?_
                                                    refine sf_iconst sf_c1 (fun z1165 ez1165 => ?_)
                                                    refine sf_iadd (by omega) (fun v1166 ev1166 => ?_)
                                                    refine sf_sldk (x := x4) (k := 1) (by omega) (by omega) (by omega) ?_
                                                    clear ev1166 ez1165
                                                    refine sf_aload rfl ?_
                                                    refine sf_iload rfl ?_
                                                    refine sf_iconst sf_c2 (fun z1167 ez1167 => ?_)
                                                    refine sf_iadd (by omega) (fun v1168 ev1168 => ?_)
                                                    refine sf_sldk (x := x4) (k := 2) (by omega) (by omega) (by omega) ?_
                                                    clear ev1168 ez1167
                                                    refine sf_aload rfl ?_
                                                    refine sf_callv4 rfl (by omega) (by omega) ?_
                                                    refine sc_W_account_0_130 I_w  (fun v1169 w1170 Iw1170 tw1170 lv1169 uv1169 => ?_)
                                                    have c1172 := sf_mf tw1170 (p := 1) (j := 0) rfl
                                                    have c1173 := sf_mf tw1170 (p := 71) (j := 1) rfl
                                                    have c1174 := sf_mf tw1170 (p := 1) (j := 5) rfl
                                                    have c1175 := sf_mf tw1170 (p := 71) (j := 5) rfl
                                                    have c1176 := sf_mf tw1170 (p := 13) (j := 1) rfl
                                                    have c1177 := sf_mf tw1170 (p := 71) (j := 10) rfl
                                                    have c1178 := sf_mf tw1170 (p := 21) (j := 1) rfl
                                                    have c1179 := sf_mf tw1170 (p := 71) (j := 18) rfl
                                                    have c1180 := sf_mf tw1170 (p := 35) (j := 0) rfl
                                                    have c1181 := sf_mf tw1170 (p := 71) (j := 35) rfl
                                                    have c1182 := sf_ma tw1170 (p := 3) rfl
                                                    have c1183 := sf_ma tw1170 (p := 72) rfl
                                                    have c1184 := sf_mg tw1170 (p := 10) rfl
                                                    have c1185 := sf_ma tw1170 (p := 93) rfl
                                                    refine sf_istore (L' := [(0, .inl (.ref 100000)), (1, .inl (.ref 0)), (2, .inl (.ref 71)), (3, .inl (.ref 130)), (4, .inl (.int x4))]) rfl ?_
                                                    refine sf_aload rfl ?_
                                                    refine sf_aload rfl ?_
                                                    refine sf_iload rfl ?_
                                                    refine sf_iconst sf_c1 (fun z1186 ez1186 => ?_)
                                                    refine sf_iadd (by omega) (fun v1187 ev1187 => ?_)
                                                    refine sf_sldk (x := x4) (k := 1) (by omega) (by omega) (by omega) ?_
                                                    clear ev1187 ez1186
                                                    refine sf_aload rfl ?_
                                                    refine sf_iload rfl ?_
                                                    refine sf_iconst sf_c2 (fun z1188 ez1188 => ?_)
                                                    refine sf_iadd (by omega) (fun v1189 ev1189 => ?_)
                                                    refine sf_sldk (x := x4) (k := 2) (by omega) (by omega) (by omega) ?_
                                                    clear ev1189 ez1188
                                                    refine sf_callv3 rfl (by omega) (by omega) ?_
                                                    refine sf_rv Iw1170 rfl ?_
                                                    refine sc_M_account Iw1170  (fun v1190 w1191 Iw1191 tw1191 => ?_)
                                                    have c1193 := sf_mf tw1191 (p := 1) (j := 0) rfl
                                                    have c1194 := sf_mf tw1191 (p := 71) (j := 1) rfl
                                                    have c1195 := sf_mf tw1191 (p := 1) (j := 5) rfl
                                                    have c1196 := sf_mf tw1191 (p := 71) (j := 5) rfl
                                                    have c1197 := sf_mf tw1191 (p := 13) (j := 1) rfl
                                                    have c1198 := sf_mf tw1191 (p := 71) (j := 10) rfl
                                                    have c1199 := sf_mf tw1191 (p := 21) (j := 1) rfl
                                                    have c1200 := sf_mf tw1191 (p := 71) (j := 18) rfl
                                                    have c1201 := sf_mf tw1191 (p := 35) (j := 0) rfl
                                                    have c1202 := sf_mf tw1191 (p := 71) (j := 35) rfl
                                                    have c1203 := sf_ma tw1191 (p := 3) rfl
                                                    have c1204 := sf_ma tw1191 (p := 72) rfl
                                                    have c1205 := sf_mg tw1191 (p := 10) rfl
                                                    have c1206 := sf_ma tw1191 (p := 93) rfl
                                                    have c1207 := sf_mL tw1191 (p := 130) rfl
                                                    refine sf_lstore (L' := [(5, .inl (.int v1169)), (0, .inl (.ref 100000)), (1, .inl (.ref 0)), (2, .inl (.ref 71)), (3, .inl (.ref 130)), (4, .inl (.int x4))]) rfl ?_
                                                    show kt_W_law_1421 N xs K _ _ _ _ _
                                                    refine sf_iinc (L' := [(6, .inl (.long v1190)), (5, .inl (.int v1169)), (0, .inl (.ref 100000)), (1, .inl (.ref 0)), (2, .inl (.ref 71)), (3, .inl (.ref 130))]) (x := x4) sf_c8 rfl rfl (by omega) (fun v1208 ev1208 => ?_)
                                                    refine sf_can (L' := [(0, .inl (.ref 100000)), (1, .inl (.ref 0)), (2, .inl (.ref 71)), (3, .inl (.ref 130)), (4, .inl (.int v1208))]) rfl ?_
                                                    exact ih _ _ _ _ Iw1191 (by omega) (by omega) (by omega) (by omega) (by rw [c1193, c1172]; rw [c1194, c1173]; rw [c1195, c1174]; rw [c1196, c1175]; rw [c1197, c1176]; rw [c1198, c1177]; rw [c1199, c1178]; rw [c1200, c1179]; rw [c1201, c1180]; rw [c1202, c1181]; omega) (by rw [c1203, c1182]; rw [c1204, c1183]; rw [c1194, c1173]; first | exact f_1 | exact hJ) (by rw [c1205, c1184]; rw [c1206, c1185]; first | exact f_2 | exact hK2) (by omega)
                                                  · clear h1164
                                                    refine sf_sw1 sf_c23 (fun h1209 => ?_) (fun h1209 => ?_)
                                                    · refine sf_aload rfl ?_
                                                      refine sf_aload rfl ?_
                                                      refine sf_iload rfl ?_
                                                      refine sf_iconst sf_c1 (fun z1210 ez1210 => ?_)
                                                      refine sf_iadd (by omega) (fun v1211 ev1211 => ?_)
                                                      refine sf_sldk (x := x4) (k := 1) (by omega) (by omega) (by omega) ?_
                                                      clear ev1211 ez1210
                                                      refine sf_aload rfl ?_
                                                      refine sf_callv3 rfl (by omega) (by omega) ?_
                                                      refine sc_W_books_0_130 I_w  (fun v1212 w1213 Iw1213 tw1213 lv1212 uv1212 => ?_)
                                                      have c1215 := sf_mf tw1213 (p := 1) (j := 0) rfl
                                                      have c1216 := sf_mf tw1213 (p := 71) (j := 1) rfl
                                                      have c1217 := sf_mf tw1213 (p := 1) (j := 5) rfl
                                                      have c1218 := sf_mf tw1213 (p := 71) (j := 5) rfl
                                                      have c1219 := sf_mf tw1213 (p := 13) (j := 1) rfl
                                                      have c1220 := sf_mf tw1213 (p := 71) (j := 10) rfl
                                                      have c1221 := sf_mf tw1213 (p := 21) (j := 1) rfl
                                                      have c1222 := sf_mf tw1213 (p := 71) (j := 18) rfl
                                                      have c1223 := sf_mf tw1213 (p := 35) (j := 0) rfl
                                                      have c1224 := sf_mf tw1213 (p := 71) (j := 35) rfl
                                                      have c1225 := sf_ma tw1213 (p := 3) rfl
                                                      have c1226 := sf_ma tw1213 (p := 72) rfl
                                                      have c1227 := sf_mg tw1213 (p := 10) rfl
                                                      have c1228 := sf_ma tw1213 (p := 93) rfl
                                                      refine sf_istore (L' := [(0, .inl (.ref 100000)), (1, .inl (.ref 0)), (2, .inl (.ref 71)), (3, .inl (.ref 130)), (4, .inl (.int x4))]) rfl ?_
                                                      refine sf_aload rfl ?_
                                                      refine sf_aload rfl ?_
                                                      refine sf_iload rfl ?_
                                                      refine sf_iconst sf_c1 (fun z1229 ez1229 => ?_)
                                                      refine sf_iadd (by omega) (fun v1230 ev1230 => ?_)
                                                      refine sf_sldk (x := x4) (k := 1) (by omega) (by omega) (by omega) ?_
                                                      clear ev1230 ez1229
                                                      refine sf_callv2 rfl (by omega) (by omega) ?_
                                                      refine sf_rv Iw1213 rfl ?_
                                                      refine sc_M_books Iw1213  (fun v1231 w1232 Iw1232 tw1232 => ?_)
                                                      have c1234 := sf_mf tw1232 (p := 1) (j := 0) rfl
                                                      have c1235 := sf_mf tw1232 (p := 71) (j := 1) rfl
                                                      have c1236 := sf_mf tw1232 (p := 1) (j := 5) rfl
                                                      have c1237 := sf_mf tw1232 (p := 71) (j := 5) rfl
                                                      have c1238 := sf_mf tw1232 (p := 13) (j := 1) rfl
                                                      have c1239 := sf_mf tw1232 (p := 71) (j := 10) rfl
                                                      have c1240 := sf_mf tw1232 (p := 21) (j := 1) rfl
                                                      have c1241 := sf_mf tw1232 (p := 71) (j := 18) rfl
                                                      have c1242 := sf_mf tw1232 (p := 35) (j := 0) rfl
                                                      have c1243 := sf_mf tw1232 (p := 71) (j := 35) rfl
                                                      have c1244 := sf_ma tw1232 (p := 3) rfl
                                                      have c1245 := sf_ma tw1232 (p := 72) rfl
                                                      have c1246 := sf_mg tw1232 (p := 10) rfl
                                                      have c1247 := sf_ma tw1232 (p := 93) rfl
                                                      have c1248 := sf_mL tw1232 (p := 130) rfl
                                                      refine sf_lstore (L' := [(5, .inl (.int v1212)), (0, .inl (.ref 100000)), (1, .inl (.ref 0)), (2, .inl (.ref 71)), (3, .inl (.ref 130)), (4, .inl (.int x4))]) rfl ?_
                                                      show kt_W_law_1421 N xs K _ _ _ _ _
                                                      refine sf_iinc (L' := [(6, .inl (.long v1231)), (5, .inl (.int v1212)), (0, .inl (.ref 100000)), (1, .inl (.ref 0)), (2, .inl (.ref 71)), (3, .inl (.ref 130))]) (x := x4) sf_c8 rfl rfl (by omega) (fun v1249 ev1249 => ?_)
                                                      refine sf_can (L' := [(0, .inl (.ref 100000)), (1, .inl (.ref 0)), (2, .inl (.ref 71)), (3, .inl (.ref 130)), (4, .inl (.int v1249))]) rfl ?_
                                                      exact ih _ _ _ _ Iw1232 (by omega) (by omega) (by omega) (by omega) (by rw [c1234, c1215]; rw [c1235, c1216]; rw [c1236, c1217]; rw [c1237, c1218]; rw [c1238, c1219]; rw [c1239, c1220]; rw [c1240, c1221]; rw [c1241, c1222]; rw [c1242, c1223]; rw [c1243, c1224]; omega) (by rw [c1244, c1225]; rw [c1245, c1226]; rw [c1235, c1216]; first | exact f_1 | exact hJ) (by rw [c1246, c1227]; rw [c1247, c1228]; first | exact f_2 | exact hK2) (by omega)
                                                    · clear h1209
                                                      refine sf_sw0 ?_
                                                      refine sf_iinc (L' := [(0, .inl (.ref 100000)), (1, .inl (.ref 0)), (2, .inl (.ref 71)), (3, .inl (.ref 130))]) (x := x4) sf_c8 rfl rfl (by omega) (fun v1250 ev1250 => ?_)
                                                      refine sf_can (L' := [(0, .inl (.ref 100000)), (1, .inl (.ref 0)), (2, .inl (.ref 71)), (3, .inl (.ref 130)), (4, .inl (.int v1250))]) rfl ?_
                                                      exact ih _ _ _ _ I_w (by omega) (by omega) (by omega) (by omega) (by omega) (by first | exact f_1 | exact hJ) (by first | exact f_2 | exact hK2) (by omega)
