set_option maxRecDepth 100000 in
set_option maxHeartbeats 40000000 in
theorem sc_law (N : Nat) (hN : N ≤ 4096) (xs : Nat → Int32) : ∀ n : Nat, ∀ (w : wq_W) (x4 : Int32) (a b : Nat), sf_I w → 0 ≤ x4.toInt → x4.toInt ≤ (N : Int) → (a : Int) ≤ 207 + 100 * x4.toInt → (b : Int) ≤ 4018 + 600 * x4.toInt → ((sf_f w 1 0).toInt = (sf_f w 71 1).toInt ∧ (sf_f w 1 5).toInt = (sf_f w 71 5).toInt ∧ (sf_f w 13 1).toInt = (sf_f w 71 10).toInt ∧ (sf_f w 21 1).toInt = (sf_f w 71 18).toInt ∧ (sf_f w 35 0).toInt = (sf_f w 71 35).toInt) → (sf_J (sf_a w 3) (sf_a w 72) (sf_f w 71 1).toInt) → (sf_K (sf_g w 10) (sf_a w 93)) → (N : Int) - x4.toInt < (n : Int) → ku_W_law N xs n 23 [(0, .inl (.ref 100000)), (1, .inl (.ref 0)), (2, .inl (.ref 71)), (3, .inl (.ref 130)), (4, .inl (.int x4))] [] w a b := by
  intro n
  induction n with
  | zero => intros; omega
  | succ n ih =>
    intro w x4 a b I_w l_x4 u_x4 ha hb f_0 f_1 f_2 hm
    show kh_W_law_23 N xs (ku_W_law N xs n) [(0, .inl (.ref 100000)), (1, .inl (.ref 0)), (2, .inl (.ref 71)), (3, .inl (.ref 130)), (4, .inl (.int x4))] [] w a b
    generalize ku_W_law N xs n = K at ih ⊢
    have hs : sf_m [] w w := sf_m0
    refine sf_iload rfl ?_
    refine sf_aload rfl ?_
    refine sf_slen hN (fun z1 ez1 => ?_)
    refine sf_iconst sf_c8 (fun z2 ez2 => ?_)
    refine sf_isub (by omega) (fun v3 ev3 => ?_)
    refine sf_f2_gt (fun h4 => ?_) (fun h4 => ?_)
    · refine sf_iconst sf_c1 (fun z5 ez5 => ?_)
      exact sf_lend (by omega) (by omega) (by omega)
    · refine sf_aload rfl ?_
      refine sf_iload rfl ?_
      refine sf_sld (by omega) (fun v6 => ?_)
      refine sf_iconst sf_c31 (fun z7 ez7 => ?_)
      refine sf_iand (n := 31) (by omega) (by decide) (fun v8 lv8 uv8 => ?_)
      refine sf_sw1 sf_c0 (fun h9 => ?_) (fun h9 => ?_)
      · refine sf_aload rfl ?_
        refine sf_aload rfl ?_
        refine sf_iload rfl ?_
        refine sf_iconst sf_c1 (fun z10 ez10 => ?_)
        refine sf_iadd (by omega) (fun v11 ev11 => ?_)
        refine sf_sldk (x := x4) (k := 1) (by omega) (by omega) (by omega) ?_
        clear ev11 ez10
        refine sf_aload rfl ?_
        refine sf_callv3 rfl (by omega) (by omega) ?_
        refine sc_W_heading_0_130 I_w  (fun v12 w13 Iw13 tw13 lv12 uv12 q14_0 q14_1 => ?_)
        have c15 := sf_mf tw13 (p := 71) (j := 1) rfl
        have c16 := sf_mf tw13 (p := 1) (j := 5) rfl
        have c17 := sf_mf tw13 (p := 71) (j := 5) rfl
        have c18 := sf_mf tw13 (p := 13) (j := 1) rfl
        have c19 := sf_mf tw13 (p := 71) (j := 10) rfl
        have c20 := sf_mf tw13 (p := 21) (j := 1) rfl
        have c21 := sf_mf tw13 (p := 71) (j := 18) rfl
        have c22 := sf_mf tw13 (p := 35) (j := 0) rfl
        have c23 := sf_mf tw13 (p := 71) (j := 35) rfl
        have c24 := sf_ma tw13 (p := 72) rfl
        have c25 := sf_mg tw13 (p := 10) rfl
        have c26 := sf_ma tw13 (p := 93) rfl
        have F1 := q14_0
        have F2 := q14_1
        clear q14_0 q14_1
        have hHD : (sf_f w 1 0).toInt = (sf_f w 71 1).toInt := by omega
        rw [hHD] at F2
        refine sf_istore (L' := [(0, .inl (.ref 100000)), (1, .inl (.ref 0)), (2, .inl (.ref 71)), (3, .inl (.ref 130)), (4, .inl (.int x4))]) rfl ?_
        refine sf_aload rfl ?_
        refine sf_aload rfl ?_
        refine sf_iload rfl ?_
        refine sf_iconst sf_c1 (fun z27 ez27 => ?_)
        refine sf_iadd (by omega) (fun v28 ev28 => ?_)
        refine sf_sldk (x := x4) (k := 1) (by omega) (by omega) (by omega) ?_
        clear ev28 ez27
        refine sf_callv2 rfl (by omega) (by omega) ?_
        refine sf_rv Iw13 rfl ?_
        refine sc_M_heading Iw13 (by rw [c24]; rw [c15]; exact sf_J3 f_1 F2) (fun v29 w30 Iw30 tw30 lv29 uv29 q31_0 q31_1 => ?_)
        rw [c15] at q31_0
        rw [c24] at q31_1
        rw [c15] at q31_1
        have c32 := sf_mf tw30 (p := 1) (j := 0) rfl
        have c33 := sf_mf tw30 (p := 1) (j := 5) rfl
        have c34 := sf_mf tw30 (p := 71) (j := 5) rfl
        have c35 := sf_mf tw30 (p := 13) (j := 1) rfl
        have c36 := sf_mf tw30 (p := 71) (j := 10) rfl
        have c37 := sf_mf tw30 (p := 21) (j := 1) rfl
        have c38 := sf_mf tw30 (p := 71) (j := 18) rfl
        have c39 := sf_mf tw30 (p := 35) (j := 0) rfl
        have c40 := sf_mf tw30 (p := 71) (j := 35) rfl
        have c41 := sf_ma tw30 (p := 3) rfl
        have c42 := sf_mg tw30 (p := 10) rfl
        have c43 := sf_ma tw30 (p := 93) rfl
        have c44 := sf_mL tw30 (p := 130) rfl
        have G1 := q31_0
        have G2 := q31_1
        clear q31_0 q31_1
        have h00 := sf_hd I_w
        have hd3 : 0 ≤ (xs (x4.toInt.toNat + 1)).toInt → (xs (x4.toInt.toNat + 1)).toInt < (sf_f w 71 1).toInt → (sf_a w13 3 (xs (x4.toInt.toNat + 1)).toInt.toNat).toInt = (sf_a w 3 (xs (x4.toInt.toNat + 1)).toInt.toNat).toInt := fun h1 h2 => by rw [sf_F2d F2 h1 h2]
        have hrc : v12.toInt = (sf_f w30 71 0).toInt := by omega
        have hJ := sf_JH f_1 h00 F2 G2 hrc
        refine sf_istore (L' := [(5, .inl (.int v12)), (0, .inl (.ref 100000)), (1, .inl (.ref 0)), (2, .inl (.ref 71)), (3, .inl (.ref 130)), (4, .inl (.int x4))]) rfl ?_
        show kt_W_law_1404 N xs K _ _ _ _ _
        refine sf_iinc (L' := [(6, .inl (.int v29)), (5, .inl (.int v12)), (0, .inl (.ref 100000)), (1, .inl (.ref 0)), (2, .inl (.ref 71)), (3, .inl (.ref 130))]) (x := x4) sf_c8 rfl rfl (by omega) (fun v45 ev45 => ?_)
        refine sf_can (L' := [(0, .inl (.ref 100000)), (1, .inl (.ref 0)), (2, .inl (.ref 71)), (3, .inl (.ref 130)), (4, .inl (.int v45))]) rfl ?_
        exact ih _ _ _ _ Iw30 (by omega) (by omega) (by omega) (by omega) (by rw [c32]; rw [c33, c16]; rw [c34, c17]; rw [c35, c18]; rw [c36, c19]; rw [c37, c20]; rw [c38, c21]; rw [c39, c22]; rw [c40, c23]; omega) (by rw [c41]; first | exact f_1 | exact hJ) (by rw [c42, c25]; rw [c43, c26]; first | exact f_2 | exact hK2) (by omega)
      · clear h9
        refine sf_sw1 sf_c1 (fun h46 => ?_) (fun h46 => ?_)
        · refine sf_aload rfl ?_
          refine sf_aload rfl ?_
          refine sf_iload rfl ?_
          refine sf_iconst sf_c1 (fun z47 ez47 => ?_)
          refine sf_iadd (by omega) (fun v48 ev48 => ?_)
          refine sf_sldk (x := x4) (k := 1) (by omega) (by omega) (by omega) ?_
          clear ev48 ez47
          refine sf_aload rfl ?_
          refine sf_iload rfl ?_
          refine sf_iconst sf_c2 (fun z49 ez49 => ?_)
          refine sf_iadd (by omega) (fun v50 ev50 => ?_)
          refine sf_sldk (x := x4) (k := 2) (by omega) (by omega) (by omega) ?_
          clear ev50 ez49
          refine sf_aload rfl ?_
          refine sf_iload rfl ?_
          refine sf_iconst sf_c3 (fun z51 ez51 => ?_)
          refine sf_iadd (by omega) (fun v52 ev52 => ?_)
          refine sf_sldk (x := x4) (k := 3) (by omega) (by omega) (by omega) ?_
          clear ev52 ez51
          refine sf_aload rfl ?_
          refine sf_iload rfl ?_
          refine sf_iconst sf_c4 (fun z53 ez53 => ?_)
          refine sf_iadd (by omega) (fun v54 ev54 => ?_)
          refine sf_sldk (x := x4) (k := 4) (by omega) (by omega) (by omega) ?_
          clear ev54 ez53
          refine sf_aload rfl ?_
          refine sf_callv6 rfl (by omega) (by omega) ?_
          refine sc_W_note_0_130 I_w  (fun v55 w56 Iw56 tw56 lv55 uv55 q57_0 => ?_)
          have c58 := sf_mf tw56 (p := 1) (j := 0) rfl
          have c59 := sf_mf tw56 (p := 71) (j := 1) rfl
          have c60 := sf_mf tw56 (p := 71) (j := 5) rfl
          have c61 := sf_mf tw56 (p := 13) (j := 1) rfl
          have c62 := sf_mf tw56 (p := 71) (j := 10) rfl
          have c63 := sf_mf tw56 (p := 21) (j := 1) rfl
          have c64 := sf_mf tw56 (p := 71) (j := 18) rfl
          have c65 := sf_mf tw56 (p := 35) (j := 0) rfl
          have c66 := sf_mf tw56 (p := 71) (j := 35) rfl
          have c67 := sf_ma tw56 (p := 3) rfl
          have c68 := sf_ma tw56 (p := 72) rfl
          have c69 := sf_mg tw56 (p := 10) rfl
          have c70 := sf_ma tw56 (p := 93) rfl
          refine sf_istore (L' := [(0, .inl (.ref 100000)), (1, .inl (.ref 0)), (2, .inl (.ref 71)), (3, .inl (.ref 130)), (4, .inl (.int x4))]) rfl ?_
          refine sf_aload rfl ?_
          refine sf_aload rfl ?_
          refine sf_iload rfl ?_
          refine sf_iconst sf_c1 (fun z71 ez71 => ?_)
          refine sf_iadd (by omega) (fun v72 ev72 => ?_)
          refine sf_sldk (x := x4) (k := 1) (by omega) (by omega) (by omega) ?_
          clear ev72 ez71
          refine sf_aload rfl ?_
          refine sf_iload rfl ?_
          refine sf_iconst sf_c2 (fun z73 ez73 => ?_)
          refine sf_iadd (by omega) (fun v74 ev74 => ?_)
          refine sf_sldk (x := x4) (k := 2) (by omega) (by omega) (by omega) ?_
          clear ev74 ez73
          refine sf_aload rfl ?_
          refine sf_iload rfl ?_
          refine sf_iconst sf_c3 (fun z75 ez75 => ?_)
          refine sf_iadd (by omega) (fun v76 ev76 => ?_)
          refine sf_sldk (x := x4) (k := 3) (by omega) (by omega) (by omega) ?_
          clear ev76 ez75
          refine sf_aload rfl ?_
          refine sf_iload rfl ?_
          refine sf_iconst sf_c4 (fun z77 ez77 => ?_)
          refine sf_iadd (by omega) (fun v78 ev78 => ?_)
          refine sf_sldk (x := x4) (k := 4) (by omega) (by omega) (by omega) ?_
          clear ev78 ez77
          refine sf_callv5 rfl (by omega) (by omega) ?_
          refine sf_rv Iw56 rfl ?_
          refine sc_M_note Iw56  (fun v79 w80 Iw80 tw80 lv79 uv79 q81_0 => ?_)
          rw [c59] at q81_0
          rw [c60] at q81_0
          have c82 := sf_mf tw80 (p := 1) (j := 0) rfl
          have c83 := sf_mf tw80 (p := 71) (j := 1) rfl
          have c84 := sf_mf tw80 (p := 1) (j := 5) rfl
          have c85 := sf_mf tw80 (p := 13) (j := 1) rfl
          have c86 := sf_mf tw80 (p := 71) (j := 10) rfl
          have c87 := sf_mf tw80 (p := 21) (j := 1) rfl
          have c88 := sf_mf tw80 (p := 71) (j := 18) rfl
          have c89 := sf_mf tw80 (p := 35) (j := 0) rfl
          have c90 := sf_mf tw80 (p := 71) (j := 35) rfl
          have c91 := sf_ma tw80 (p := 3) rfl
          have c92 := sf_ma tw80 (p := 72) rfl
          have c93 := sf_mg tw80 (p := 10) rfl
          have c94 := sf_ma tw80 (p := 93) rfl
          have c95 := sf_mL tw80 (p := 130) rfl
          refine sf_istore (L' := [(5, .inl (.int v55)), (0, .inl (.ref 100000)), (1, .inl (.ref 0)), (2, .inl (.ref 71)), (3, .inl (.ref 130)), (4, .inl (.int x4))]) rfl ?_
          show kt_W_law_1404 N xs K _ _ _ _ _
          refine sf_iinc (L' := [(6, .inl (.int v79)), (5, .inl (.int v55)), (0, .inl (.ref 100000)), (1, .inl (.ref 0)), (2, .inl (.ref 71)), (3, .inl (.ref 130))]) (x := x4) sf_c8 rfl rfl (by omega) (fun v96 ev96 => ?_)
          refine sf_can (L' := [(0, .inl (.ref 100000)), (1, .inl (.ref 0)), (2, .inl (.ref 71)), (3, .inl (.ref 130)), (4, .inl (.int v96))]) rfl ?_
          exact ih _ _ _ _ Iw80 (by omega) (by omega) (by omega) (by omega) (by rw [c82, c58]; rw [c83, c59]; rw [c84]; rw [c85, c61]; rw [c86, c62]; rw [c87, c63]; rw [c88, c64]; rw [c89, c65]; rw [c90, c66]; omega) (by rw [c91, c67]; rw [c92, c68]; rw [c83, c59]; first | exact f_1 | exact hJ) (by rw [c93, c69]; rw [c94, c70]; first | exact f_2 | exact hK2) (by omega)
        · clear h46
          refine sf_sw1 sf_c2 (fun h97 => ?_) (fun h97 => ?_)
          · refine sf_aload rfl ?_
            refine sf_aload rfl ?_
            refine sf_iload rfl ?_
            refine sf_iconst sf_c1 (fun z98 ez98 => ?_)
            refine sf_iadd (by omega) (fun v99 ev99 => ?_)
            refine sf_sldk (x := x4) (k := 1) (by omega) (by omega) (by omega) ?_
            clear ev99 ez98
            refine sf_aload rfl ?_
            refine sf_iload rfl ?_
            refine sf_iconst sf_c2 (fun z100 ez100 => ?_)
            refine sf_iadd (by omega) (fun v101 ev101 => ?_)
            refine sf_sldk (x := x4) (k := 2) (by omega) (by omega) (by omega) ?_
            clear ev101 ez100
            refine sf_aload rfl ?_
            refine sf_iload rfl ?_
            refine sf_iconst sf_c3 (fun z102 ez102 => ?_)
            refine sf_iadd (by omega) (fun v103 ev103 => ?_)
            refine sf_sldk (x := x4) (k := 3) (by omega) (by omega) (by omega) ?_
            clear ev103 ez102
            refine sf_aload rfl ?_
            refine sf_callv5 rfl (by omega) (by omega) ?_
            refine sc_W_fact_0_130 I_w  (fun v104 w105 Iw105 tw105 lv104 uv104 q106_0 q106_1 => ?_)
            have c107 := sf_mf tw105 (p := 1) (j := 0) rfl
            have c108 := sf_mf tw105 (p := 71) (j := 1) rfl
            have c109 := sf_mf tw105 (p := 1) (j := 5) rfl
            have c110 := sf_mf tw105 (p := 71) (j := 5) rfl
            have c111 := sf_mf tw105 (p := 13) (j := 1) rfl
            have c112 := sf_mf tw105 (p := 71) (j := 10) rfl
            have c113 := sf_mf tw105 (p := 21) (j := 1) rfl
            have c114 := sf_mf tw105 (p := 71) (j := 18) rfl
            have c115 := sf_mf tw105 (p := 35) (j := 0) rfl
            have c116 := sf_mf tw105 (p := 71) (j := 35) rfl
            have c117 := sf_ma tw105 (p := 3) rfl
            have c118 := sf_ma tw105 (p := 72) rfl
            have c119 := sf_ma tw105 (p := 93) rfl
            have F1 := q106_0
            have F2 := q106_1
            clear q106_0 q106_1
            refine sf_istore (L' := [(0, .inl (.ref 100000)), (1, .inl (.ref 0)), (2, .inl (.ref 71)), (3, .inl (.ref 130)), (4, .inl (.int x4))]) rfl ?_
            refine sf_aload rfl ?_
            refine sf_aload rfl ?_
            refine sf_iload rfl ?_
            refine sf_iconst sf_c1 (fun z120 ez120 => ?_)
            refine sf_iadd (by omega) (fun v121 ev121 => ?_)
            refine sf_sldk (x := x4) (k := 1) (by omega) (by omega) (by omega) ?_
            clear ev121 ez120
            refine sf_aload rfl ?_
            refine sf_iload rfl ?_
            refine sf_iconst sf_c2 (fun z122 ez122 => ?_)
            refine sf_iadd (by omega) (fun v123 ev123 => ?_)
            refine sf_sldk (x := x4) (k := 2) (by omega) (by omega) (by omega) ?_
            clear ev123 ez122
            refine sf_aload rfl ?_
            refine sf_iload rfl ?_
            refine sf_iconst sf_c3 (fun z124 ez124 => ?_)
            refine sf_iadd (by omega) (fun v125 ev125 => ?_)
            refine sf_sldk (x := x4) (k := 3) (by omega) (by omega) (by omega) ?_
            clear ev125 ez124
            refine sf_callv4 rfl (by omega) (by omega) ?_
            refine sf_rv Iw105 rfl ?_
            refine sc_M_fact Iw105  (fun v126 w127 Iw127 tw127 q128_0 q128_1 => ?_)
            rw [c119] at q128_0
            rw [c119] at q128_1
            have c129 := sf_mf tw127 (p := 1) (j := 0) rfl
            have c130 := sf_mf tw127 (p := 71) (j := 1) rfl
            have c131 := sf_mf tw127 (p := 1) (j := 5) rfl
            have c132 := sf_mf tw127 (p := 71) (j := 5) rfl
            have c133 := sf_mf tw127 (p := 13) (j := 1) rfl
            have c134 := sf_mf tw127 (p := 71) (j := 10) rfl
            have c135 := sf_mf tw127 (p := 21) (j := 1) rfl
            have c136 := sf_mf tw127 (p := 71) (j := 18) rfl
            have c137 := sf_mf tw127 (p := 35) (j := 0) rfl
            have c138 := sf_mf tw127 (p := 71) (j := 35) rfl
            have c139 := sf_ma tw127 (p := 3) rfl
            have c140 := sf_ma tw127 (p := 72) rfl
            have c141 := sf_mg tw127 (p := 10) rfl
            have c142 := sf_mL tw127 (p := 130) rfl
            have G1 := q128_0
            have G2 := q128_1
            clear q128_0 q128_1
            have hK2 : sf_K (sf_g w105 10) (sf_a w127 93) := by
              rcases F2 with ⟨h1, h2⟩ | ⟨h1, h2, h3⟩ <;> rcases G2 with ⟨g1, g2⟩ | ⟨g1, g2, g3⟩
              · rw [h2, g2]; exact f_2
              · exfalso; omega
              · exfalso; omega
              · rw [h2, g2]; exact sf_KF f_2 (by omega) (by omega)
            have hKv : v104.toInt = 0 → (sf_g w 10 (xs (x4.toInt.toNat + 1)).toInt.toNat (xs (x4.toInt.toNat + 2)).toInt.toNat).toInt = (sf_a w 93 (8 * (xs (x4.toInt.toNat + 1)).toInt + (xs (x4.toInt.toNat + 2)).toInt).toNat).toInt := fun h1 => sf_Kv f_2 (by omega) (by omega)
            clear F2 G2
            refine sf_istore (L' := [(5, .inl (.int v104)), (0, .inl (.ref 100000)), (1, .inl (.ref 0)), (2, .inl (.ref 71)), (3, .inl (.ref 130)), (4, .inl (.int x4))]) rfl ?_
            show kt_W_law_1404 N xs K _ _ _ _ _
            refine sf_iinc (L' := [(6, .inl (.int v126)), (5, .inl (.int v104)), (0, .inl (.ref 100000)), (1, .inl (.ref 0)), (2, .inl (.ref 71)), (3, .inl (.ref 130))]) (x := x4) sf_c8 rfl rfl (by omega) (fun v143 ev143 => ?_)
            refine sf_can (L' := [(0, .inl (.ref 100000)), (1, .inl (.ref 0)), (2, .inl (.ref 71)), (3, .inl (.ref 130)), (4, .inl (.int v143))]) rfl ?_
            exact ih _ _ _ _ Iw127 (by omega) (by omega) (by omega) (by omega) (by rw [c129, c107]; rw [c130, c108]; rw [c131, c109]; rw [c132, c110]; rw [c133, c111]; rw [c134, c112]; rw [c135, c113]; rw [c136, c114]; rw [c137, c115]; rw [c138, c116]; omega) (by rw [c139, c117]; rw [c140, c118]; rw [c130, c108]; first | exact f_1 | exact hJ) (by rw [c141]; first | exact f_2 | exact hK2) (by omega)
          · clear h97
            refine sf_sw1 sf_c3 (fun h144 => ?_) (fun h144 => ?_)
            · refine sf_aload rfl ?_
              refine sf_aload rfl ?_
              refine sf_iload rfl ?_
              refine sf_iconst sf_c1 (fun z145 ez145 => ?_)
              refine sf_iadd (by omega) (fun v146 ev146 => ?_)
              refine sf_sldk (x := x4) (k := 1) (by omega) (by omega) (by omega) ?_
              clear ev146 ez145
              refine sf_aload rfl ?_
              refine sf_callv3 rfl (by omega) (by omega) ?_
              refine sc_W_classify_0_130 I_w  (fun v147 w148 Iw148 tw148 lv147 uv147 => ?_)
              have c150 := sf_mf tw148 (p := 1) (j := 0) rfl
              have c151 := sf_mf tw148 (p := 71) (j := 1) rfl
              have c152 := sf_mf tw148 (p := 1) (j := 5) rfl
              have c153 := sf_mf tw148 (p := 71) (j := 5) rfl
              have c154 := sf_mf tw148 (p := 13) (j := 1) rfl
              have c155 := sf_mf tw148 (p := 71) (j := 10) rfl
              have c156 := sf_mf tw148 (p := 21) (j := 1) rfl
              have c157 := sf_mf tw148 (p := 71) (j := 18) rfl
              have c158 := sf_mf tw148 (p := 35) (j := 0) rfl
              have c159 := sf_mf tw148 (p := 71) (j := 35) rfl
              have c160 := sf_ma tw148 (p := 3) rfl
              have c161 := sf_ma tw148 (p := 72) rfl
              have c162 := sf_mg tw148 (p := 10) rfl
              have c163 := sf_ma tw148 (p := 93) rfl
              refine sf_istore (L' := [(0, .inl (.ref 100000)), (1, .inl (.ref 0)), (2, .inl (.ref 71)), (3, .inl (.ref 130)), (4, .inl (.int x4))]) rfl ?_
              refine sf_aload rfl ?_
              refine sf_aload rfl ?_
              refine sf_iload rfl ?_
              refine sf_iconst sf_c1 (fun z164 ez164 => ?_)
              refine sf_iadd (by omega) (fun v165 ev165 => ?_)
              refine sf_sldk (x := x4) (k := 1) (by omega) (by omega) (by omega) ?_
              clear ev165 ez164
              refine sf_callv2 rfl (by omega) (by omega) ?_
              refine sf_rv Iw148 rfl ?_
              refine sc_M_classify Iw148  (fun v166 w167 Iw167 tw167 lv166 uv166 => ?_)
              have c169 := sf_mf tw167 (p := 1) (j := 0) rfl
              have c170 := sf_mf tw167 (p := 71) (j := 1) rfl
              have c171 := sf_mf tw167 (p := 1) (j := 5) rfl
              have c172 := sf_mf tw167 (p := 71) (j := 5) rfl
              have c173 := sf_mf tw167 (p := 13) (j := 1) rfl
              have c174 := sf_mf tw167 (p := 71) (j := 10) rfl
              have c175 := sf_mf tw167 (p := 21) (j := 1) rfl
              have c176 := sf_mf tw167 (p := 71) (j := 18) rfl
              have c177 := sf_mf tw167 (p := 35) (j := 0) rfl
              have c178 := sf_mf tw167 (p := 71) (j := 35) rfl
              have c179 := sf_ma tw167 (p := 3) rfl
              have c180 := sf_ma tw167 (p := 72) rfl
              have c181 := sf_mg tw167 (p := 10) rfl
              have c182 := sf_ma tw167 (p := 93) rfl
              have c183 := sf_mL tw167 (p := 130) rfl
              refine sf_istore (L' := [(5, .inl (.int v147)), (0, .inl (.ref 100000)), (1, .inl (.ref 0)), (2, .inl (.ref 71)), (3, .inl (.ref 130)), (4, .inl (.int x4))]) rfl ?_
              show kt_W_law_1404 N xs K _ _ _ _ _
              refine sf_iinc (L' := [(6, .inl (.int v166)), (5, .inl (.int v147)), (0, .inl (.ref 100000)), (1, .inl (.ref 0)), (2, .inl (.ref 71)), (3, .inl (.ref 130))]) (x := x4) sf_c8 rfl rfl (by omega) (fun v184 ev184 => ?_)
              refine sf_can (L' := [(0, .inl (.ref 100000)), (1, .inl (.ref 0)), (2, .inl (.ref 71)), (3, .inl (.ref 130)), (4, .inl (.int v184))]) rfl ?_
              exact ih _ _ _ _ Iw167 (by omega) (by omega) (by omega) (by omega) (by rw [c169, c150]; rw [c170, c151]; rw [c171, c152]; rw [c172, c153]; rw [c173, c154]; rw [c174, c155]; rw [c175, c156]; rw [c176, c157]; rw [c177, c158]; rw [c178, c159]; omega) (by rw [c179, c160]; rw [c180, c161]; rw [c170, c151]; first | exact f_1 | exact hJ) (by rw [c181, c162]; rw [c182, c163]; first | exact f_2 | exact hK2) (by omega)
            · clear h144
              refine sf_sw1 sf_c4 (fun h185 => ?_) (fun h185 => ?_)
              · refine sf_aload rfl ?_
                refine sf_aload rfl ?_
                refine sf_iload rfl ?_
                refine sf_iconst sf_c1 (fun z186 ez186 => ?_)
                refine sf_iadd (by omega) (fun v187 ev187 => ?_)
                refine sf_sldk (x := x4) (k := 1) (by omega) (by omega) (by omega) ?_
                clear ev187 ez186
                refine sf_aload rfl ?_
                refine sf_iload rfl ?_
                refine sf_iconst sf_c2 (fun z188 ez188 => ?_)
                refine sf_iadd (by omega) (fun v189 ev189 => ?_)
                refine sf_sldk (x := x4) (k := 2) (by omega) (by omega) (by omega) ?_
                clear ev189 ez188
                refine sf_aload rfl ?_
                refine sf_iload rfl ?_
                refine sf_iconst sf_c3 (fun z190 ez190 => ?_)
                refine sf_iadd (by omega) (fun v191 ev191 => ?_)
                refine sf_sldk (x := x4) (k := 3) (by omega) (by omega) (by omega) ?_
                clear ev191 ez190
                refine sf_aload rfl ?_
                refine sf_iload rfl ?_
                refine sf_iconst sf_c4 (fun z192 ez192 => ?_)
                refine sf_iadd (by omega) (fun v193 ev193 => ?_)
                refine sf_sldk (x := x4) (k := 4) (by omega) (by omega) (by omega) ?_
                clear ev193 ez192
                refine sf_aload rfl ?_
                refine sf_iload rfl ?_
                refine sf_iconst sf_c5 (fun z194 ez194 => ?_)
                refine sf_iadd (by omega) (fun v195 ev195 => ?_)
                refine sf_sldk (x := x4) (k := 5) (by omega) (by omega) (by omega) ?_
                clear ev195 ez194
                refine sf_aload rfl ?_
                refine sf_iload rfl ?_
                refine sf_iconst sf_c6 (fun z196 ez196 => ?_)
                refine sf_iadd (by omega) (fun v197 ev197 => ?_)
                refine sf_sldk (x := x4) (k := 6) (by omega) (by omega) (by omega) ?_
                clear ev197 ez196
                refine sf_aload rfl ?_
                refine sf_iload rfl ?_
                refine sf_iconst sf_c7 (fun z198 ez198 => ?_)
                refine sf_iadd (by omega) (fun v199 ev199 => ?_)
                refine sf_sldk (x := x4) (k := 7) (by omega) (by omega) (by omega) ?_
                clear ev199 ez198
                refine sf_aload rfl ?_
                refine sf_callv9 rfl (by omega) (by omega) ?_
                refine sc_W_rate_0_130 I_w  (fun v200 w201 Iw201 tw201 lv200 uv200 q202_0 => ?_)
                have c203 := sf_mf tw201 (p := 1) (j := 0) rfl
                have c204 := sf_mf tw201 (p := 71) (j := 1) rfl
                have c205 := sf_mf tw201 (p := 1) (j := 5) rfl
                have c206 := sf_mf tw201 (p := 71) (j := 5) rfl
                have c207 := sf_mf tw201 (p := 71) (j := 10) rfl
                have c208 := sf_mf tw201 (p := 21) (j := 1) rfl
                have c209 := sf_mf tw201 (p := 71) (j := 18) rfl
                have c210 := sf_mf tw201 (p := 35) (j := 0) rfl
                have c211 := sf_mf tw201 (p := 71) (j := 35) rfl
                have c212 := sf_ma tw201 (p := 3) rfl
                have c213 := sf_ma tw201 (p := 72) rfl
                have c214 := sf_mg tw201 (p := 10) rfl
                have c215 := sf_ma tw201 (p := 93) rfl
                refine sf_istore (L' := [(0, .inl (.ref 100000)), (1, .inl (.ref 0)), (2, .inl (.ref 71)), (3, .inl (.ref 130)), (4, .inl (.int x4))]) rfl ?_
                refine sf_aload rfl ?_
                refine sf_aload rfl ?_
                refine sf_iload rfl ?_
                refine sf_iconst sf_c1 (fun z216 ez216 => ?_)
                refine sf_iadd (by omega) (fun v217 ev217 => ?_)
                refine sf_sldk (x := x4) (k := 1) (by omega) (by omega) (by omega) ?_
                clear ev217 ez216
                refine sf_aload rfl ?_
                refine sf_iload rfl ?_
                refine sf_iconst sf_c2 (fun z218 ez218 => ?_)
                refine sf_iadd (by omega) (fun v219 ev219 => ?_)
                refine sf_sldk (x := x4) (k := 2) (by omega) (by omega) (by omega) ?_
                clear ev219 ez218
                refine sf_aload rfl ?_
                refine sf_iload rfl ?_
                refine sf_iconst sf_c3 (fun z220 ez220 => ?_)
                refine sf_iadd (by omega) (fun v221 ev221 => ?_)
                refine sf_sldk (x := x4) (k := 3) (by omega) (by omega) (by omega) ?_
                clear ev221 ez220
                refine sf_aload rfl ?_
                refine sf_iload rfl ?_
                refine sf_iconst sf_c4 (fun z222 ez222 => ?_)
                refine sf_iadd (by omega) (fun v223 ev223 => ?_)
                refine sf_sldk (x := x4) (k := 4) (by omega) (by omega) (by omega) ?_
                clear ev223 ez222
                refine sf_aload rfl ?_
                refine sf_iload rfl ?_
                refine sf_iconst sf_c5 (fun z224 ez224 => ?_)
                refine sf_iadd (by omega) (fun v225 ev225 => ?_)
                refine sf_sldk (x := x4) (k := 5) (by omega) (by omega) (by omega) ?_
                clear ev225 ez224
                refine sf_aload rfl ?_
                refine sf_iload rfl ?_
                refine sf_iconst sf_c6 (fun z226 ez226 => ?_)
                refine sf_iadd (by omega) (fun v227 ev227 => ?_)
                refine sf_sldk (x := x4) (k := 6) (by omega) (by omega) (by omega) ?_
                clear ev227 ez226
                refine sf_aload rfl ?_
                refine sf_iload rfl ?_
                refine sf_iconst sf_c7 (fun z228 ez228 => ?_)
                refine sf_iadd (by omega) (fun v229 ev229 => ?_)
                refine sf_sldk (x := x4) (k := 7) (by omega) (by omega) (by omega) ?_
                clear ev229 ez228
                refine sf_callv8 rfl (by omega) (by omega) ?_
                refine sf_rv Iw201 rfl ?_
                refine sc_M_rate Iw201  (fun v230 w231 Iw231 tw231 lv230 uv230 q232_0 => ?_)
                rw [c204] at q232_0
                rw [c207] at q232_0
                have c233 := sf_mf tw231 (p := 1) (j := 0) rfl
                have c234 := sf_mf tw231 (p := 71) (j := 1) rfl
                have c235 := sf_mf tw231 (p := 1) (j := 5) rfl
                have c236 := sf_mf tw231 (p := 71) (j := 5) rfl
                have c237 := sf_mf tw231 (p := 13) (j := 1) rfl
                have c238 := sf_mf tw231 (p := 21) (j := 1) rfl
                have c239 := sf_mf tw231 (p := 71) (j := 18) rfl
                have c240 := sf_mf tw231 (p := 35) (j := 0) rfl
                have c241 := sf_mf tw231 (p := 71) (j := 35) rfl
                have c242 := sf_ma tw231 (p := 3) rfl
                have c243 := sf_ma tw231 (p := 72) rfl
                have c244 := sf_mg tw231 (p := 10) rfl
                have c245 := sf_ma tw231 (p := 93) rfl
                have c246 := sf_mL tw231 (p := 130) rfl
                refine sf_istore (L' := [(5, .inl (.int v200)), (0, .inl (.ref 100000)), (1, .inl (.ref 0)), (2, .inl (.ref 71)), (3, .inl (.ref 130)), (4, .inl (.int x4))]) rfl ?_
                show kt_W_law_1404 N xs K _ _ _ _ _
                refine sf_iinc (L' := [(6, .inl (.int v230)), (5, .inl (.int v200)), (0, .inl (.ref 100000)), (1, .inl (.ref 0)), (2, .inl (.ref 71)), (3, .inl (.ref 130))]) (x := x4) sf_c8 rfl rfl (by omega) (fun v247 ev247 => ?_)
                refine sf_can (L' := [(0, .inl (.ref 100000)), (1, .inl (.ref 0)), (2, .inl (.ref 71)), (3, .inl (.ref 130)), (4, .inl (.int v247))]) rfl ?_
                exact ih _ _ _ _ Iw231 (by omega) (by omega) (by omega) (by omega) (by rw [c233, c203]; rw [c234, c204]; rw [c235, c205]; rw [c236, c206]; rw [c237]; rw [c238, c208]; rw [c239, c209]; rw [c240, c210]; rw [c241, c211]; omega) (by rw [c242, c212]; rw [c243, c213]; rw [c234, c204]; first | exact f_1 | exact hJ) (by rw [c244, c214]; rw [c245, c215]; first | exact f_2 | exact hK2) (by omega)
              · clear h185
                refine sf_sw1 sf_c5 (fun h248 => ?_) (fun h248 => ?_)
                · refine sf_aload rfl ?_
                  refine sf_aload rfl ?_
                  refine sf_iload rfl ?_
                  refine sf_iconst sf_c1 (fun z249 ez249 => ?_)
                  refine sf_iadd (by omega) (fun v250 ev250 => ?_)
                  refine sf_sldk (x := x4) (k := 1) (by omega) (by omega) (by omega) ?_
                  clear ev250 ez249
                  refine sf_aload rfl ?_
                  refine sf_iload rfl ?_
                  refine sf_iconst sf_c2 (fun z251 ez251 => ?_)
                  refine sf_iadd (by omega) (fun v252 ev252 => ?_)
                  refine sf_sldk (x := x4) (k := 2) (by omega) (by omega) (by omega) ?_
                  clear ev252 ez251
                  refine sf_aload rfl ?_
                  refine sf_iload rfl ?_
                  refine sf_iconst sf_c3 (fun z253 ez253 => ?_)
                  refine sf_iadd (by omega) (fun v254 ev254 => ?_)
                  refine sf_sldk (x := x4) (k := 3) (by omega) (by omega) (by omega) ?_
                  clear ev254 ez253
                  refine sf_aload rfl ?_
                  refine sf_callv5 rfl (by omega) (by omega) ?_
                  refine sc_W_rateFor_0_130 I_w  (fun v255 w256 Iw256 tw256 lv255 uv255 => ?_)
                  have c258 := sf_mf tw256 (p := 1) (j := 0) rfl
                  have c259 := sf_mf tw256 (p := 71) (j := 1) rfl
                  have c260 := sf_mf tw256 (p := 1) (j := 5) rfl
                  have c261 := sf_mf tw256 (p := 71) (j := 5) rfl
                  have c262 := sf_mf tw256 (p := 13) (j := 1) rfl
                  have c263 := sf_mf tw256 (p := 71) (j := 10) rfl
                  have c264 := sf_mf tw256 (p := 21) (j := 1) rfl
                  have c265 := sf_mf tw256 (p := 71) (j := 18) rfl
                  have c266 := sf_mf tw256 (p := 35) (j := 0) rfl
                  have c267 := sf_mf tw256 (p := 71) (j := 35) rfl
                  have c268 := sf_ma tw256 (p := 3) rfl
                  have c269 := sf_ma tw256 (p := 72) rfl
                  have c270 := sf_mg tw256 (p := 10) rfl
                  have c271 := sf_ma tw256 (p := 93) rfl
                  refine sf_istore (L' := [(0, .inl (.ref 100000)), (1, .inl (.ref 0)), (2, .inl (.ref 71)), (3, .inl (.ref 130)), (4, .inl (.int x4))]) rfl ?_
                  refine sf_aload rfl ?_
                  refine sf_aload rfl ?_
                  refine sf_iload rfl ?_
                  refine sf_iconst sf_c1 (fun z272 ez272 => ?_)
                  refine sf_iadd (by omega) (fun v273 ev273 => ?_)
                  refine sf_sldk (x := x4) (k := 1) (by omega) (by omega) (by omega) ?_
                  clear ev273 ez272
                  refine sf_aload rfl ?_
                  refine sf_iload rfl ?_
                  refine sf_iconst sf_c2 (fun z274 ez274 => ?_)
                  refine sf_iadd (by omega) (fun v275 ev275 => ?_)
                  refine sf_sldk (x := x4) (k := 2) (by omega) (by omega) (by omega) ?_
                  clear ev275 ez274
                  refine sf_aload rfl ?_
                  refine sf_iload rfl ?_
                  refine sf_iconst sf_c3 (fun z276 ez276 => ?_)
                  refine sf_iadd (by omega) (fun v277 ev277 => ?_)
                  refine sf_sldk (x := x4) (k := 3) (by omega) (by omega) (by omega) ?_
                  clear ev277 ez276
                  refine sf_callv4 rfl (by omega) (by omega) ?_
                  refine sf_rv Iw256 rfl ?_
                  refine sc_M_rateFor Iw256  (fun v278 w279 Iw279 tw279 lv278 uv278 => ?_)
                  have c281 := sf_mf tw279 (p := 1) (j := 0) rfl
                  have c282 := sf_mf tw279 (p := 71) (j := 1) rfl
                  have c283 := sf_mf tw279 (p := 1) (j := 5) rfl
                  have c284 := sf_mf tw279 (p := 71) (j := 5) rfl
                  have c285 := sf_mf tw279 (p := 13) (j := 1) rfl
                  have c286 := sf_mf tw279 (p := 71) (j := 10) rfl
                  have c287 := sf_mf tw279 (p := 21) (j := 1) rfl
                  have c288 := sf_mf tw279 (p := 71) (j := 18) rfl
                  have c289 := sf_mf tw279 (p := 35) (j := 0) rfl
                  have c290 := sf_mf tw279 (p := 71) (j := 35) rfl
                  have c291 := sf_ma tw279 (p := 3) rfl
                  have c292 := sf_ma tw279 (p := 72) rfl
                  have c293 := sf_mg tw279 (p := 10) rfl
                  have c294 := sf_ma tw279 (p := 93) rfl
                  have c295 := sf_mL tw279 (p := 130) rfl
                  refine sf_istore (L' := [(5, .inl (.int v255)), (0, .inl (.ref 100000)), (1, .inl (.ref 0)), (2, .inl (.ref 71)), (3, .inl (.ref 130)), (4, .inl (.int x4))]) rfl ?_
                  show kt_W_law_1404 N xs K _ _ _ _ _
                  refine sf_iinc (L' := [(6, .inl (.int v278)), (5, .inl (.int v255)), (0, .inl (.ref 100000)), (1, .inl (.ref 0)), (2, .inl (.ref 71)), (3, .inl (.ref 130))]) (x := x4) sf_c8 rfl rfl (by omega) (fun v296 ev296 => ?_)
                  refine sf_can (L' := [(0, .inl (.ref 100000)), (1, .inl (.ref 0)), (2, .inl (.ref 71)), (3, .inl (.ref 130)), (4, .inl (.int v296))]) rfl ?_
                  exact ih _ _ _ _ Iw279 (by omega) (by omega) (by omega) (by omega) (by rw [c281, c258]; rw [c282, c259]; rw [c283, c260]; rw [c284, c261]; rw [c285, c262]; rw [c286, c263]; rw [c287, c264]; rw [c288, c265]; rw [c289, c266]; rw [c290, c267]; omega) (by rw [c291, c268]; rw [c292, c269]; rw [c282, c259]; first | exact f_1 | exact hJ) (by rw [c293, c270]; rw [c294, c271]; first | exact f_2 | exact hK2) (by omega)
                · clear h248
                  refine sf_sw1 sf_c6 (fun h297 => ?_) (fun h297 => ?_)
                  · refine sf_aload rfl ?_
                    refine sf_aload rfl ?_
                    refine sf_iload rfl ?_
                    refine sf_iconst sf_c1 (fun z298 ez298 => ?_)
                    refine sf_iadd (by omega) (fun v299 ev299 => ?_)
                    refine sf_sldk (x := x4) (k := 1) (by omega) (by omega) (by omega) ?_
                    clear ev299 ez298
                    refine sf_aload rfl ?_
                    refine sf_iload rfl ?_
                    refine sf_iconst sf_c2 (fun z300 ez300 => ?_)
                    refine sf_iadd (by omega) (fun v301 ev301 => ?_)
                    refine sf_sldk (x := x4) (k := 2) (by omega) (by omega) (by omega) ?_
                    clear ev301 ez300
                    refine sf_aload rfl ?_
                    refine sf_iload rfl ?_
                    refine sf_iconst sf_c3 (fun z302 ez302 => ?_)
                    refine sf_iadd (by omega) (fun v303 ev303 => ?_)
                    refine sf_sldk (x := x4) (k := 3) (by omega) (by omega) (by omega) ?_
                    clear ev303 ez302
                    refine sf_aload rfl ?_
                    refine sf_iload rfl ?_
                    refine sf_iconst sf_c4 (fun z304 ez304 => ?_)
                    refine sf_iadd (by omega) (fun v305 ev305 => ?_)
                    refine sf_sldk (x := x4) (k := 4) (by omega) (by omega) (by omega) ?_
                    clear ev305 ez304
                    refine sf_aload rfl ?_
                    refine sf_iload rfl ?_
                    refine sf_iconst sf_c5 (fun z306 ez306 => ?_)
                    refine sf_iadd (by omega) (fun v307 ev307 => ?_)
                    refine sf_sldk (x := x4) (k := 5) (by omega) (by omega) (by omega) ?_
                    clear ev307 ez306
                    refine sf_aload rfl ?_
                    refine sf_iload rfl ?_
                    refine sf_iconst sf_c6 (fun z308 ez308 => ?_)
                    refine sf_iadd (by omega) (fun v309 ev309 => ?_)
                    refine sf_sldk (x := x4) (k := 6) (by omega) (by omega) (by omega) ?_
                    clear ev309 ez308
                    refine sf_aload rfl ?_
                    refine sf_callv8 rfl (by omega) (by omega) ?_
                    refine sc_W_quota_0_130 I_w  (fun v310 w311 Iw311 tw311 lv310 uv310 q312_0 => ?_)
                    have c313 := sf_mf tw311 (p := 1) (j := 0) rfl
                    have c314 := sf_mf tw311 (p := 71) (j := 1) rfl
                    have c315 := sf_mf tw311 (p := 1) (j := 5) rfl
                    have c316 := sf_mf tw311 (p := 71) (j := 5) rfl
                    have c317 := sf_mf tw311 (p := 13) (j := 1) rfl
                    have c318 := sf_mf tw311 (p := 71) (j := 10) rfl
                    have c319 := sf_mf tw311 (p := 71) (j := 18) rfl
                    have c320 := sf_mf tw311 (p := 35) (j := 0) rfl
                    have c321 := sf_mf tw311 (p := 71) (j := 35) rfl
                    have c322 := sf_ma tw311 (p := 3) rfl
                    have c323 := sf_ma tw311 (p := 72) rfl
                    have c324 := sf_mg tw311 (p := 10) rfl
                    have c325 := sf_ma tw311 (p := 93) rfl
                    refine sf_istore (L' := [(0, .inl (.ref 100000)), (1, .inl (.ref 0)), (2, .inl (.ref 71)), (3, .inl (.ref 130)), (4, .inl (.int x4))]) rfl ?_
                    refine sf_aload rfl ?_
                    refine sf_aload rfl ?_
                    refine sf_iload rfl ?_
                    refine sf_iconst sf_c1 (fun z326 ez326 => ?_)
                    refine sf_iadd (by omega) (fun v327 ev327 => ?_)
                    refine sf_sldk (x := x4) (k := 1) (by omega) (by omega) (by omega) ?_
                    clear ev327 ez326
                    refine sf_aload rfl ?_
                    refine sf_iload rfl ?_
                    refine sf_iconst sf_c2 (fun z328 ez328 => ?_)
                    refine sf_iadd (by omega) (fun v329 ev329 => ?_)
                    refine sf_sldk (x := x4) (k := 2) (by omega) (by omega) (by omega) ?_
                    clear ev329 ez328
                    refine sf_aload rfl ?_
                    refine sf_iload rfl ?_
                    refine sf_iconst sf_c3 (fun z330 ez330 => ?_)
                    refine sf_iadd (by omega) (fun v331 ev331 => ?_)
                    refine sf_sldk (x := x4) (k := 3) (by omega) (by omega) (by omega) ?_
                    clear ev331 ez330
                    refine sf_aload rfl ?_
                    refine sf_iload rfl ?_
                    refine sf_iconst sf_c4 (fun z332 ez332 => ?_)
                    refine sf_iadd (by omega) (fun v333 ev333 => ?_)
                    refine sf_sldk (x := x4) (k := 4) (by omega) (by omega) (by omega) ?_
                    clear ev333 ez332
                    refine sf_aload rfl ?_
                    refine sf_iload rfl ?_
                    refine sf_iconst sf_c5 (fun z334 ez334 => ?_)
                    refine sf_iadd (by omega) (fun v335 ev335 => ?_)
                    refine sf_sldk (x := x4) (k := 5) (by omega) (by omega) (by omega) ?_
                    clear ev335 ez334
                    refine sf_aload rfl ?_
                    refine sf_iload rfl ?_
                    refine sf_iconst sf_c6 (fun z336 ez336 => ?_)
                    refine sf_iadd (by omega) (fun v337 ev337 => ?_)
                    refine sf_sldk (x := x4) (k := 6) (by omega) (by omega) (by omega) ?_
                    clear ev337 ez336
                    refine sf_callv7 rfl (by omega) (by omega) ?_
                    refine sf_rv Iw311 rfl ?_
                    refine sc_M_quota Iw311  (fun v338 w339 Iw339 tw339 lv338 uv338 q340_0 => ?_)
                    rw [c314] at q340_0
                    rw [c319] at q340_0
                    have c341 := sf_mf tw339 (p := 1) (j := 0) rfl
                    have c342 := sf_mf tw339 (p := 71) (j := 1) rfl
                    have c343 := sf_mf tw339 (p := 1) (j := 5) rfl
                    have c344 := sf_mf tw339 (p := 71) (j := 5) rfl
                    have c345 := sf_mf tw339 (p := 13) (j := 1) rfl
                    have c346 := sf_mf tw339 (p := 71) (j := 10) rfl
                    have c347 := sf_mf tw339 (p := 21) (j := 1) rfl
                    have c348 := sf_mf tw339 (p := 35) (j := 0) rfl
                    have c349 := sf_mf tw339 (p := 71) (j := 35) rfl
                    have c350 := sf_ma tw339 (p := 3) rfl
                    have c351 := sf_ma tw339 (p := 72) rfl
                    have c352 := sf_mg tw339 (p := 10) rfl
                    have c353 := sf_ma tw339 (p := 93) rfl
                    have c354 := sf_mL tw339 (p := 130) rfl
                    refine sf_istore (L' := [(5, .inl (.int v310)), (0, .inl (.ref 100000)), (1, .inl (.ref 0)), (2, .inl (.ref 71)), (3, .inl (.ref 130)), (4, .inl (.int x4))]) rfl ?_
                    show kt_W_law_1404 N xs K _ _ _ _ _
                    refine sf_iinc (L' := [(6, .inl (.int v338)), (5, .inl (.int v310)), (0, .inl (.ref 100000)), (1, .inl (.ref 0)), (2, .inl (.ref 71)), (3, .inl (.ref 130))]) (x := x4) sf_c8 rfl rfl (by omega) (fun v355 ev355 => ?_)
                    refine sf_can (L' := [(0, .inl (.ref 100000)), (1, .inl (.ref 0)), (2, .inl (.ref 71)), (3, .inl (.ref 130)), (4, .inl (.int v355))]) rfl ?_
                    exact ih _ _ _ _ Iw339 (by omega) (by omega) (by omega) (by omega) (by rw [c341, c313]; rw [c342, c314]; rw [c343, c315]; rw [c344, c316]; rw [c345, c317]; rw [c346, c318]; rw [c347]; rw [c348, c320]; rw [c349, c321]; omega) (by rw [c350, c322]; rw [c351, c323]; rw [c342, c314]; first | exact f_1 | exact hJ) (by rw [c352, c324]; rw [c353, c325]; first | exact f_2 | exact hK2) (by omega)
                  · clear h297
                    refine sf_sw1 sf_c7 (fun h356 => ?_) (fun h356 => ?_)
                    · refine sf_aload rfl ?_
                      refine sf_aload rfl ?_
                      refine sf_iload rfl ?_
                      refine sf_iconst sf_c1 (fun z357 ez357 => ?_)
                      refine sf_iadd (by omega) (fun v358 ev358 => ?_)
                      refine sf_sldk (x := x4) (k := 1) (by omega) (by omega) (by omega) ?_
                      clear ev358 ez357
                      refine sf_aload rfl ?_
                      refine sf_callv3 rfl (by omega) (by omega) ?_
                      refine sc_W_quotaLeft_0_130 I_w  (fun v359 w360 Iw360 tw360 lv359 uv359 => ?_)
                      have c362 := sf_mf tw360 (p := 1) (j := 0) rfl
                      have c363 := sf_mf tw360 (p := 71) (j := 1) rfl
                      have c364 := sf_mf tw360 (p := 1) (j := 5) rfl
                      have c365 := sf_mf tw360 (p := 71) (j := 5) rfl
                      have c366 := sf_mf tw360 (p := 13) (j := 1) rfl
                      have c367 := sf_mf tw360 (p := 71) (j := 10) rfl
                      have c368 := sf_mf tw360 (p := 21) (j := 1) rfl
                      have c369 := sf_mf tw360 (p := 71) (j := 18) rfl
                      have c370 := sf_mf tw360 (p := 35) (j := 0) rfl
                      have c371 := sf_mf tw360 (p := 71) (j := 35) rfl
                      have c372 := sf_ma tw360 (p := 3) rfl
                      have c373 := sf_ma tw360 (p := 72) rfl
                      have c374 := sf_mg tw360 (p := 10) rfl
                      have c375 := sf_ma tw360 (p := 93) rfl
                      refine sf_istore (L' := [(0, .inl (.ref 100000)), (1, .inl (.ref 0)), (2, .inl (.ref 71)), (3, .inl (.ref 130)), (4, .inl (.int x4))]) rfl ?_
                      refine sf_aload rfl ?_
                      refine sf_aload rfl ?_
                      refine sf_iload rfl ?_
                      refine sf_iconst sf_c1 (fun z376 ez376 => ?_)
                      refine sf_iadd (by omega) (fun v377 ev377 => ?_)
                      refine sf_sldk (x := x4) (k := 1) (by omega) (by omega) (by omega) ?_
                      clear ev377 ez376
                      refine sf_callv2 rfl (by omega) (by omega) ?_
                      refine sf_rv Iw360 rfl ?_
                      refine sc_M_quotaLeft Iw360  (fun v378 w379 Iw379 tw379 => ?_)
                      have c381 := sf_mf tw379 (p := 1) (j := 0) rfl
                      have c382 := sf_mf tw379 (p := 71) (j := 1) rfl
                      have c383 := sf_mf tw379 (p := 1) (j := 5) rfl
                      have c384 := sf_mf tw379 (p := 71) (j := 5) rfl
                      have c385 := sf_mf tw379 (p := 13) (j := 1) rfl
                      have c386 := sf_mf tw379 (p := 71) (j := 10) rfl
                      have c387 := sf_mf tw379 (p := 21) (j := 1) rfl
                      have c388 := sf_mf tw379 (p := 71) (j := 18) rfl
                      have c389 := sf_mf tw379 (p := 35) (j := 0) rfl
                      have c390 := sf_mf tw379 (p := 71) (j := 35) rfl
                      have c391 := sf_ma tw379 (p := 3) rfl
                      have c392 := sf_ma tw379 (p := 72) rfl
                      have c393 := sf_mg tw379 (p := 10) rfl
                      have c394 := sf_ma tw379 (p := 93) rfl
                      have c395 := sf_mL tw379 (p := 130) rfl
                      refine sf_istore (L' := [(5, .inl (.int v359)), (0, .inl (.ref 100000)), (1, .inl (.ref 0)), (2, .inl (.ref 71)), (3, .inl (.ref 130)), (4, .inl (.int x4))]) rfl ?_
                      show kt_W_law_1404 N xs K _ _ _ _ _
                      refine sf_iinc (L' := [(6, .inl (.int v378)), (5, .inl (.int v359)), (0, .inl (.ref 100000)), (1, .inl (.ref 0)), (2, .inl (.ref 71)), (3, .inl (.ref 130))]) (x := x4) sf_c8 rfl rfl (by omega) (fun v396 ev396 => ?_)
                      refine sf_can (L' := [(0, .inl (.ref 100000)), (1, .inl (.ref 0)), (2, .inl (.ref 71)), (3, .inl (.ref 130)), (4, .inl (.int v396))]) rfl ?_
                      exact ih _ _ _ _ Iw379 (by omega) (by omega) (by omega) (by omega) (by rw [c381, c362]; rw [c382, c363]; rw [c383, c364]; rw [c384, c365]; rw [c385, c366]; rw [c386, c367]; rw [c387, c368]; rw [c388, c369]; rw [c389, c370]; rw [c390, c371]; omega) (by rw [c391, c372]; rw [c392, c373]; rw [c382, c363]; first | exact f_1 | exact hJ) (by rw [c393, c374]; rw [c394, c375]; first | exact f_2 | exact hK2) (by omega)
                    · clear h356
                      refine sf_sw1 sf_c8 (fun h397 => ?_) (fun h397 => ?_)
                      · refine sf_aload rfl ?_
                        refine sf_aload rfl ?_
                        refine sf_iload rfl ?_
                        refine sf_iconst sf_c1 (fun z398 ez398 => ?_)
                        refine sf_iadd (by omega) (fun v399 ev399 => ?_)
                        refine sf_sldk (x := x4) (k := 1) (by omega) (by omega) (by omega) ?_
                        clear ev399 ez398
                        refine sf_aload rfl ?_
                        refine sf_iload rfl ?_
                        refine sf_iconst sf_c2 (fun z400 ez400 => ?_)
                        refine sf_iadd (by omega) (fun v401 ev401 => ?_)
                        refine sf_sldk (x := x4) (k := 2) (by omega) (by omega) (by omega) ?_
                        clear ev401 ez400
                        refine sf_aload rfl ?_
                        refine sf_iload rfl ?_
                        refine sf_iconst sf_c3 (fun z402 ez402 => ?_)
                        refine sf_iadd (by omega) (fun v403 ev403 => ?_)
                        refine sf_sldk (x := x4) (k := 3) (by omega) (by omega) (by omega) ?_
                        clear ev403 ez402
                        refine sf_aload rfl ?_
                        refine sf_iload rfl ?_
                        refine sf_iconst sf_c4 (fun z404 ez404 => ?_)
                        refine sf_iadd (by omega) (fun v405 ev405 => ?_)
                        refine sf_sldk (x := x4) (k := 4) (by omega) (by omega) (by omega) ?_
                        clear ev405 ez404
                        refine sf_aload rfl ?_
                        refine sf_callv6 rfl (by omega) (by omega) ?_
                        refine sc_W_part_0_130 I_w  (fun v406 w407 Iw407 tw407 lv406 uv406 => ?_)
                        have c409 := sf_mf tw407 (p := 1) (j := 0) rfl
                        have c410 := sf_mf tw407 (p := 71) (j := 1) rfl
                        have c411 := sf_mf tw407 (p := 1) (j := 5) rfl
                        have c412 := sf_mf tw407 (p := 71) (j := 5) rfl
                        have c413 := sf_mf tw407 (p := 13) (j := 1) rfl
                        have c414 := sf_mf tw407 (p := 71) (j := 10) rfl
                        have c415 := sf_mf tw407 (p := 21) (j := 1) rfl
                        have c416 := sf_mf tw407 (p := 71) (j := 18) rfl
                        have c417 := sf_mf tw407 (p := 35) (j := 0) rfl
                        have c418 := sf_mf tw407 (p := 71) (j := 35) rfl
                        have c419 := sf_ma tw407 (p := 3) rfl
                        have c420 := sf_ma tw407 (p := 72) rfl
                        have c421 := sf_mg tw407 (p := 10) rfl
                        have c422 := sf_ma tw407 (p := 93) rfl
                        refine sf_istore (L' := [(0, .inl (.ref 100000)), (1, .inl (.ref 0)), (2, .inl (.ref 71)), (3, .inl (.ref 130)), (4, .inl (.int x4))]) rfl ?_
                        refine sf_aload rfl ?_
                        refine sf_aload rfl ?_
                        refine sf_iload rfl ?_
                        refine sf_iconst sf_c1 (fun z423 ez423 => ?_)
                        refine sf_iadd (by omega) (fun v424 ev424 => ?_)
                        refine sf_sldk (x := x4) (k := 1) (by omega) (by omega) (by omega) ?_
                        clear ev424 ez423
                        refine sf_aload rfl ?_
                        refine sf_iload rfl ?_
                        refine sf_iconst sf_c2 (fun z425 ez425 => ?_)
                        refine sf_iadd (by omega) (fun v426 ev426 => ?_)
                        refine sf_sldk (x := x4) (k := 2) (by omega) (by omega) (by omega) ?_
                        clear ev426 ez425
                        refine sf_aload rfl ?_
                        refine sf_iload rfl ?_
                        refine sf_iconst sf_c3 (fun z427 ez427 => ?_)
                        refine sf_iadd (by omega) (fun v428 ev428 => ?_)
                        refine sf_sldk (x := x4) (k := 3) (by omega) (by omega) (by omega) ?_
                        clear ev428 ez427
                        refine sf_aload rfl ?_
                        refine sf_iload rfl ?_
                        refine sf_iconst sf_c4 (fun z429 ez429 => ?_)
                        refine sf_iadd (by omega) (fun v430 ev430 => ?_)
                        refine sf_sldk (x := x4) (k := 4) (by omega) (by omega) (by omega) ?_
                        clear ev430 ez429
                        refine sf_callv5 rfl (by omega) (by omega) ?_
                        refine sf_rv Iw407 rfl ?_
                        refine sc_M_part Iw407  (fun v431 w432 Iw432 tw432 lv431 uv431 => ?_)
                        have c434 := sf_mf tw432 (p := 1) (j := 0) rfl
                        have c435 := sf_mf tw432 (p := 71) (j := 1) rfl
                        have c436 := sf_mf tw432 (p := 1) (j := 5) rfl
                        have c437 := sf_mf tw432 (p := 71) (j := 5) rfl
                        have c438 := sf_mf tw432 (p := 13) (j := 1) rfl
                        have c439 := sf_mf tw432 (p := 71) (j := 10) rfl
                        have c440 := sf_mf tw432 (p := 21) (j := 1) rfl
                        have c441 := sf_mf tw432 (p := 71) (j := 18) rfl
                        have c442 := sf_mf tw432 (p := 35) (j := 0) rfl
                        have c443 := sf_mf tw432 (p := 71) (j := 35) rfl
                        have c444 := sf_ma tw432 (p := 3) rfl
                        have c445 := sf_ma tw432 (p := 72) rfl
                        have c446 := sf_mg tw432 (p := 10) rfl
                        have c447 := sf_ma tw432 (p := 93) rfl
                        have c448 := sf_mL tw432 (p := 130) rfl
                        refine sf_istore (L' := [(5, .inl (.int v406)), (0, .inl (.ref 100000)), (1, .inl (.ref 0)), (2, .inl (.ref 71)), (3, .inl (.ref 130)), (4, .inl (.int x4))]) rfl ?_
                        show kt_W_law_1404 N xs K _ _ _ _ _
                        refine sf_iinc (L' := [(6, .inl (.int v431)), (5, .inl (.int v406)), (0, .inl (.ref 100000)), (1, .inl (.ref 0)), (2, .inl (.ref 71)), (3, .inl (.ref 130))]) (x := x4) sf_c8 rfl rfl (by omega) (fun v449 ev449 => ?_)
                        refine sf_can (L' := [(0, .inl (.ref 100000)), (1, .inl (.ref 0)), (2, .inl (.ref 71)), (3, .inl (.ref 130)), (4, .inl (.int v449))]) rfl ?_
                        exact ih _ _ _ _ Iw432 (by omega) (by omega) (by omega) (by omega) (by rw [c434, c409]; rw [c435, c410]; rw [c436, c411]; rw [c437, c412]; rw [c438, c413]; rw [c439, c414]; rw [c440, c415]; rw [c441, c416]; rw [c442, c417]; rw [c443, c418]; omega) (by rw [c444, c419]; rw [c445, c420]; rw [c435, c410]; first | exact f_1 | exact hJ) (by rw [c446, c421]; rw [c447, c422]; first | exact f_2 | exact hK2) (by omega)
                      · clear h397
                        refine sf_sw1 sf_c9 (fun h450 => ?_) (fun h450 => ?_)
                        · refine sf_aload rfl ?_
                          refine sf_aload rfl ?_
                          refine sf_iload rfl ?_
                          refine sf_iconst sf_c1 (fun z451 ez451 => ?_)
                          refine sf_iadd (by omega) (fun v452 ev452 => ?_)
                          refine sf_sldk (x := x4) (k := 1) (by omega) (by omega) (by omega) ?_
                          clear ev452 ez451
                          refine sf_aload rfl ?_
                          refine sf_iload rfl ?_
                          refine sf_iconst sf_c2 (fun z453 ez453 => ?_)
                          refine sf_iadd (by omega) (fun v454 ev454 => ?_)
                          refine sf_sldk (x := x4) (k := 2) (by omega) (by omega) (by omega) ?_
                          clear ev454 ez453
                          refine sf_callv3 rfl (by omega) (by omega) ?_
                          refine sc_W_zone_0 I_w  (fun v455 w456 Iw456 tw456 lv455 uv455 q457_0 => ?_)
                          have c458 := sf_mf tw456 (p := 1) (j := 0) rfl
                          have c459 := sf_mf tw456 (p := 71) (j := 1) rfl
                          have c460 := sf_mf tw456 (p := 1) (j := 5) rfl
                          have c461 := sf_mf tw456 (p := 71) (j := 5) rfl
                          have c462 := sf_mf tw456 (p := 13) (j := 1) rfl
                          have c463 := sf_mf tw456 (p := 71) (j := 10) rfl
                          have c464 := sf_mf tw456 (p := 21) (j := 1) rfl
                          have c465 := sf_mf tw456 (p := 71) (j := 18) rfl
                          have c466 := sf_mf tw456 (p := 35) (j := 0) rfl
                          have c467 := sf_mf tw456 (p := 71) (j := 35) rfl
                          have c468 := sf_ma tw456 (p := 3) rfl
                          have c469 := sf_ma tw456 (p := 72) rfl
                          have c470 := sf_mg tw456 (p := 10) rfl
                          have c471 := sf_ma tw456 (p := 93) rfl
                          have c472 := sf_mL tw456 (p := 130) rfl
                          refine sf_istore (L' := [(0, .inl (.ref 100000)), (1, .inl (.ref 0)), (2, .inl (.ref 71)), (3, .inl (.ref 130)), (4, .inl (.int x4))]) rfl ?_
                          refine sf_aload rfl ?_
                          refine sf_aload rfl ?_
                          refine sf_iload rfl ?_
                          refine sf_iconst sf_c1 (fun z473 ez473 => ?_)
                          refine sf_iadd (by omega) (fun v474 ev474 => ?_)
                          refine sf_sldk (x := x4) (k := 1) (by omega) (by omega) (by omega) ?_
                          clear ev474 ez473
                          refine sf_aload rfl ?_
                          refine sf_iload rfl ?_
                          refine sf_iconst sf_c2 (fun z475 ez475 => ?_)
                          refine sf_iadd (by omega) (fun v476 ev476 => ?_)
                          refine sf_sldk (x := x4) (k := 2) (by omega) (by omega) (by omega) ?_
                          clear ev476 ez475
                          refine sf_callv3 rfl (by omega) (by omega) ?_
                          refine sf_rv Iw456 rfl ?_
                          refine sc_M_zone Iw456  (fun w477 Iw477 tw477 q478_0 => ?_)
                          have c479 := sf_mf tw477 (p := 1) (j := 0) rfl
                          have c480 := sf_mf tw477 (p := 71) (j := 1) rfl
                          have c481 := sf_mf tw477 (p := 1) (j := 5) rfl
                          have c482 := sf_mf tw477 (p := 71) (j := 5) rfl
                          have c483 := sf_mf tw477 (p := 13) (j := 1) rfl
                          have c484 := sf_mf tw477 (p := 71) (j := 10) rfl
                          have c485 := sf_mf tw477 (p := 21) (j := 1) rfl
                          have c486 := sf_mf tw477 (p := 71) (j := 18) rfl
                          have c487 := sf_mf tw477 (p := 35) (j := 0) rfl
                          have c488 := sf_mf tw477 (p := 71) (j := 35) rfl
                          have c489 := sf_ma tw477 (p := 3) rfl
                          have c490 := sf_ma tw477 (p := 72) rfl
                          have c491 := sf_mg tw477 (p := 10) rfl
                          have c492 := sf_ma tw477 (p := 93) rfl
                          have c493 := sf_mL tw477 (p := 130) rfl
                          show kt_W_law_1404 N xs K _ _ _ _ _
                          refine sf_iinc (L' := [(5, .inl (.int v455)), (0, .inl (.ref 100000)), (1, .inl (.ref 0)), (2, .inl (.ref 71)), (3, .inl (.ref 130))]) (x := x4) sf_c8 rfl rfl (by omega) (fun v494 ev494 => ?_)
                          refine sf_can (L' := [(0, .inl (.ref 100000)), (1, .inl (.ref 0)), (2, .inl (.ref 71)), (3, .inl (.ref 130)), (4, .inl (.int v494))]) rfl ?_
                          exact ih _ _ _ _ Iw477 (by omega) (by omega) (by omega) (by omega) (by rw [c479, c458]; rw [c480, c459]; rw [c481, c460]; rw [c482, c461]; rw [c483, c462]; rw [c484, c463]; rw [c485, c464]; rw [c486, c465]; rw [c487, c466]; rw [c488, c467]; omega) (by rw [c489, c468]; rw [c490, c469]; rw [c480, c459]; first | exact f_1 | exact hJ) (by rw [c491, c470]; rw [c492, c471]; first | exact f_2 | exact hK2) (by omega)
                        · clear h450
                          refine sf_sw1 sf_c10 (fun h495 => ?_) (fun h495 => ?_)
                          · refine sf_aload rfl ?_
                            refine sf_aload rfl ?_
                            refine sf_iload rfl ?_
                            refine sf_iconst sf_c1 (fun z496 ez496 => ?_)
                            refine sf_iadd (by omega) (fun v497 ev497 => ?_)
                            refine sf_sldk (x := x4) (k := 1) (by omega) (by omega) (by omega) ?_
                            clear ev497 ez496
                            refine sf_aload rfl ?_
                            refine sf_iload rfl ?_
                            refine sf_iconst sf_c2 (fun z498 ez498 => ?_)
                            refine sf_iadd (by omega) (fun v499 ev499 => ?_)
                            refine sf_sldk (x := x4) (k := 2) (by omega) (by omega) (by omega) ?_
                            clear ev499 ez498
                            refine sf_aload rfl ?_
                            refine sf_iload rfl ?_
                            refine sf_iconst sf_c3 (fun z500 ez500 => ?_)
                            refine sf_iadd (by omega) (fun v501 ev501 => ?_)
                            refine sf_sldk (x := x4) (k := 3) (by omega) (by omega) (by omega) ?_
                            clear ev501 ez500
                            refine sf_callv4 rfl (by omega) (by omega) ?_
                            refine sc_W_rule_0 I_w  (fun v502 w503 Iw503 tw503 lv502 uv502 q504_0 => ?_)
                            have c505 := sf_mf tw503 (p := 1) (j := 0) rfl
                            have c506 := sf_mf tw503 (p := 71) (j := 1) rfl
                            have c507 := sf_mf tw503 (p := 1) (j := 5) rfl
                            have c508 := sf_mf tw503 (p := 71) (j := 5) rfl
                            have c509 := sf_mf tw503 (p := 13) (j := 1) rfl
                            have c510 := sf_mf tw503 (p := 71) (j := 10) rfl
                            have c511 := sf_mf tw503 (p := 21) (j := 1) rfl
                            have c512 := sf_mf tw503 (p := 71) (j := 18) rfl
                            have c513 := sf_mf tw503 (p := 35) (j := 0) rfl
                            have c514 := sf_mf tw503 (p := 71) (j := 35) rfl
                            have c515 := sf_ma tw503 (p := 3) rfl
                            have c516 := sf_ma tw503 (p := 72) rfl
                            have c517 := sf_mg tw503 (p := 10) rfl
                            have c518 := sf_ma tw503 (p := 93) rfl
                            have c519 := sf_mL tw503 (p := 130) rfl
                            refine sf_istore (L' := [(0, .inl (.ref 100000)), (1, .inl (.ref 0)), (2, .inl (.ref 71)), (3, .inl (.ref 130)), (4, .inl (.int x4))]) rfl ?_
                            refine sf_aload rfl ?_
                            refine sf_aload rfl ?_
                            refine sf_iload rfl ?_
                            refine sf_iconst sf_c1 (fun z520 ez520 => ?_)
                            refine sf_iadd (by omega) (fun v521 ev521 => ?_)
                            refine sf_sldk (x := x4) (k := 1) (by omega) (by omega) (by omega) ?_
                            clear ev521 ez520
                            refine sf_aload rfl ?_
                            refine sf_iload rfl ?_
                            refine sf_iconst sf_c2 (fun z522 ez522 => ?_)
                            refine sf_iadd (by omega) (fun v523 ev523 => ?_)
                            refine sf_sldk (x := x4) (k := 2) (by omega) (by omega) (by omega) ?_
                            clear ev523 ez522
                            refine sf_aload rfl ?_
                            refine sf_iload rfl ?_
                            refine sf_iconst sf_c3 (fun z524 ez524 => ?_)
                            refine sf_iadd (by omega) (fun v525 ev525 => ?_)
                            refine sf_sldk (x := x4) (k := 3) (by omega) (by omega) (by omega) ?_
                            clear ev525 ez524
                            refine sf_callv4 rfl (by omega) (by omega) ?_
                            refine sf_rv Iw503 rfl ?_
                            refine sc_M_rule Iw503  (fun w526 Iw526 tw526 q527_0 => ?_)
                            rw [c506] at q527_0
                            have c528 := sf_mf tw526 (p := 1) (j := 0) rfl
                            have c529 := sf_mf tw526 (p := 71) (j := 1) rfl
                            have c530 := sf_mf tw526 (p := 1) (j := 5) rfl
                            have c531 := sf_mf tw526 (p := 71) (j := 5) rfl
                            have c532 := sf_mf tw526 (p := 13) (j := 1) rfl
                            have c533 := sf_mf tw526 (p := 71) (j := 10) rfl
                            have c534 := sf_mf tw526 (p := 21) (j := 1) rfl
                            have c535 := sf_mf tw526 (p := 71) (j := 18) rfl
                            have c536 := sf_mf tw526 (p := 35) (j := 0) rfl
                            have c537 := sf_mf tw526 (p := 71) (j := 35) rfl
                            have c538 := sf_ma tw526 (p := 3) rfl
                            have c539 := sf_ma tw526 (p := 72) rfl
                            have c540 := sf_mg tw526 (p := 10) rfl
                            have c541 := sf_ma tw526 (p := 93) rfl
                            have c542 := sf_mL tw526 (p := 130) rfl
                            refine sf_aload rfl ?_
                            refine sf_callv1 rfl (by omega) (by omega) ?_
                            refine sf_rv Iw526 rfl ?_
                            refine sf_sp (L := [(0, .inl (.ref 71))]) rfl rfl ?_
                            refine sf_aload rfl ?_
                            refine sf_geti Iw526 rfl rfl (fun v543 lv543 uv543 ev543 => ?_)
                            refine sf_ireturn rfl rfl ?_
                            refine sf_iload rfl ?_
                            refine sf_f2_eq (fun h544 => ?_) (fun h544 => ?_)
                            · show kt_W_law_1404 N xs K _ _ _ _ _
                              refine sf_iinc (L' := [(5, .inl (.int v502)), (0, .inl (.ref 100000)), (1, .inl (.ref 0)), (2, .inl (.ref 71)), (3, .inl (.ref 130))]) (x := x4) sf_c8 rfl rfl (by omega) (fun v545 ev545 => ?_)
                              refine sf_can (L' := [(0, .inl (.ref 100000)), (1, .inl (.ref 0)), (2, .inl (.ref 71)), (3, .inl (.ref 130)), (4, .inl (.int v545))]) rfl ?_
                              exact ih _ _ _ _ Iw526 (by omega) (by omega) (by omega) (by omega) (by rw [c528, c505]; rw [c529, c506]; rw [c530, c507]; rw [c531, c508]; rw [c532, c509]; rw [c533, c510]; rw [c534, c511]; rw [c535, c512]; rw [c536, c513]; rw [c537, c514]; omega) (by rw [c538, c515]; rw [c539, c516]; rw [c529, c506]; first | exact f_1 | exact hJ) (by rw [c540, c517]; rw [c541, c518]; first | exact f_2 | exact hK2) (by omega)
                            · refine sf_iconst sf_c0 (fun z546 ez546 => ?_)
                              exact sf_lend (by omega) (by omega) (by omega)
                          · clear h495
                            refine sf_sw1 sf_c11 (fun h547 => ?_) (fun h547 => ?_)
                            · refine sf_aload rfl ?_
                              refine sf_aload rfl ?_
                              refine sf_iload rfl ?_
                              refine sf_iconst sf_c1 (fun z548 ez548 => ?_)
                              refine sf_iadd (by omega) (fun v549 ev549 => ?_)
                              refine sf_sldk (x := x4) (k := 1) (by omega) (by omega) (by omega) ?_
                              clear ev549 ez548
                              refine sf_aload rfl ?_
                              refine sf_iload rfl ?_
                              refine sf_iconst sf_c2 (fun z550 ez550 => ?_)
                              refine sf_iadd (by omega) (fun v551 ev551 => ?_)
                              refine sf_sldk (x := x4) (k := 2) (by omega) (by omega) (by omega) ?_
                              clear ev551 ez550
                              refine sf_aload rfl ?_
                              refine sf_callv4 rfl (by omega) (by omega) ?_
                              refine sc_W_madeIn_0_130 I_w  (fun v552 w553 Iw553 tw553 lv552 uv552 => ?_)
                              have c555 := sf_mf tw553 (p := 1) (j := 0) rfl
                              have c556 := sf_mf tw553 (p := 71) (j := 1) rfl
                              have c557 := sf_mf tw553 (p := 1) (j := 5) rfl
                              have c558 := sf_mf tw553 (p := 71) (j := 5) rfl
                              have c559 := sf_mf tw553 (p := 13) (j := 1) rfl
                              have c560 := sf_mf tw553 (p := 71) (j := 10) rfl
                              have c561 := sf_mf tw553 (p := 21) (j := 1) rfl
                              have c562 := sf_mf tw553 (p := 71) (j := 18) rfl
                              have c563 := sf_mf tw553 (p := 35) (j := 0) rfl
                              have c564 := sf_mf tw553 (p := 71) (j := 35) rfl
                              have c565 := sf_ma tw553 (p := 3) rfl
                              have c566 := sf_ma tw553 (p := 72) rfl
                              have c567 := sf_mg tw553 (p := 10) rfl
                              have c568 := sf_ma tw553 (p := 93) rfl
                              refine sf_istore (L' := [(0, .inl (.ref 100000)), (1, .inl (.ref 0)), (2, .inl (.ref 71)), (3, .inl (.ref 130)), (4, .inl (.int x4))]) rfl ?_
                              refine sf_aload rfl ?_
                              refine sf_aload rfl ?_
                              refine sf_iload rfl ?_
                              refine sf_iconst sf_c1 (fun z569 ez569 => ?_)
                              refine sf_iadd (by omega) (fun v570 ev570 => ?_)
                              refine sf_sldk (x := x4) (k := 1) (by omega) (by omega) (by omega) ?_
                              clear ev570 ez569
                              refine sf_aload rfl ?_
                              refine sf_iload rfl ?_
                              refine sf_iconst sf_c2 (fun z571 ez571 => ?_)
                              refine sf_iadd (by omega) (fun v572 ev572 => ?_)
                              refine sf_sldk (x := x4) (k := 2) (by omega) (by omega) (by omega) ?_
                              clear ev572 ez571
                              refine sf_callv3 rfl (by omega) (by omega) ?_
                              refine sf_rv Iw553 rfl ?_
                              refine sc_M_madeIn Iw553  (fun v573 w574 Iw574 tw574 lv573 uv573 => ?_)
                              have c576 := sf_mf tw574 (p := 1) (j := 0) rfl
                              have c577 := sf_mf tw574 (p := 71) (j := 1) rfl
                              have c578 := sf_mf tw574 (p := 1) (j := 5) rfl
                              have c579 := sf_mf tw574 (p := 71) (j := 5) rfl
                              have c580 := sf_mf tw574 (p := 13) (j := 1) rfl
                              have c581 := sf_mf tw574 (p := 71) (j := 10) rfl
                              have c582 := sf_mf tw574 (p := 21) (j := 1) rfl
                              have c583 := sf_mf tw574 (p := 71) (j := 18) rfl
                              have c584 := sf_mf tw574 (p := 35) (j := 0) rfl
                              have c585 := sf_mf tw574 (p := 71) (j := 35) rfl
                              have c586 := sf_ma tw574 (p := 3) rfl
                              have c587 := sf_ma tw574 (p := 72) rfl
                              have c588 := sf_mg tw574 (p := 10) rfl
                              have c589 := sf_ma tw574 (p := 93) rfl
                              have c590 := sf_mL tw574 (p := 130) rfl
                              refine sf_istore (L' := [(5, .inl (.int v552)), (0, .inl (.ref 100000)), (1, .inl (.ref 0)), (2, .inl (.ref 71)), (3, .inl (.ref 130)), (4, .inl (.int x4))]) rfl ?_
                              show kt_W_law_1404 N xs K _ _ _ _ _
                              refine sf_iinc (L' := [(6, .inl (.int v573)), (5, .inl (.int v552)), (0, .inl (.ref 100000)), (1, .inl (.ref 0)), (2, .inl (.ref 71)), (3, .inl (.ref 130))]) (x := x4) sf_c8 rfl rfl (by omega) (fun v591 ev591 => ?_)
                              refine sf_can (L' := [(0, .inl (.ref 100000)), (1, .inl (.ref 0)), (2, .inl (.ref 71)), (3, .inl (.ref 130)), (4, .inl (.int v591))]) rfl ?_
                              exact ih _ _ _ _ Iw574 (by omega) (by omega) (by omega) (by omega) (by rw [c576, c555]; rw [c577, c556]; rw [c578, c557]; rw [c579, c558]; rw [c580, c559]; rw [c581, c560]; rw [c582, c561]; rw [c583, c562]; rw [c584, c563]; rw [c585, c564]; omega) (by rw [c586, c565]; rw [c587, c566]; rw [c577, c556]; first | exact f_1 | exact hJ) (by rw [c588, c567]; rw [c589, c568]; first | exact f_2 | exact hK2) (by omega)
                            · clear h547
                              refine sf_sw1 sf_c12 (fun h592 => ?_) (fun h592 => ?_)
                              · refine sf_aload rfl ?_
                                refine sf_aload rfl ?_
                                refine sf_iload rfl ?_
                                refine sf_iconst sf_c1 (fun z593 ez593 => ?_)
                                refine sf_iadd (by omega) (fun v594 ev594 => ?_)
                                refine sf_sldk (x := x4) (k := 1) (by omega) (by omega) (by omega) ?_
                                clear ev594 ez593
                                refine sf_aload rfl ?_
                                refine sf_iload rfl ?_
                                refine sf_iconst sf_c2 (fun z595 ez595 => ?_)
                                refine sf_iadd (by omega) (fun v596 ev596 => ?_)
                                refine sf_sldk (x := x4) (k := 2) (by omega) (by omega) (by omega) ?_
                                clear ev596 ez595
                                refine sf_aload rfl ?_
                                refine sf_callv4 rfl (by omega) (by omega) ?_
                                refine sc_W_declare_0_130 I_w  (fun v597 w598 Iw598 tw598 lv597 uv597 q599_0 => ?_)
                                have c600 := sf_mf tw598 (p := 1) (j := 0) rfl
                                have c601 := sf_mf tw598 (p := 71) (j := 1) rfl
                                have c602 := sf_mf tw598 (p := 1) (j := 5) rfl
                                have c603 := sf_mf tw598 (p := 71) (j := 5) rfl
                                have c604 := sf_mf tw598 (p := 13) (j := 1) rfl
                                have c605 := sf_mf tw598 (p := 71) (j := 10) rfl
                                have c606 := sf_mf tw598 (p := 21) (j := 1) rfl
                                have c607 := sf_mf tw598 (p := 71) (j := 18) rfl
                                have c608 := sf_mf tw598 (p := 71) (j := 35) rfl
                                have c609 := sf_ma tw598 (p := 3) rfl
                                have c610 := sf_ma tw598 (p := 72) rfl
                                have c611 := sf_mg tw598 (p := 10) rfl
                                have c612 := sf_ma tw598 (p := 93) rfl
                                refine sf_istore (L' := [(0, .inl (.ref 100000)), (1, .inl (.ref 0)), (2, .inl (.ref 71)), (3, .inl (.ref 130)), (4, .inl (.int x4))]) rfl ?_
                                refine sf_aload rfl ?_
                                refine sf_aload rfl ?_
                                refine sf_iload rfl ?_
                                refine sf_iconst sf_c1 (fun z613 ez613 => ?_)
                                refine sf_iadd (by omega) (fun v614 ev614 => ?_)
                                refine sf_sldk (x := x4) (k := 1) (by omega) (by omega) (by omega) ?_
                                clear ev614 ez613
                                refine sf_aload rfl ?_
                                refine sf_iload rfl ?_
                                refine sf_iconst sf_c2 (fun z615 ez615 => ?_)
                                refine sf_iadd (by omega) (fun v616 ev616 => ?_)
                                refine sf_sldk (x := x4) (k := 2) (by omega) (by omega) (by omega) ?_
                                clear ev616 ez615
                                refine sf_callv3 rfl (by omega) (by omega) ?_
                                refine sf_rv Iw598 rfl ?_
                                refine sc_M_declare Iw598  (fun v617 w618 Iw618 tw618 lv617 uv617 q619_0 => ?_)
                                rw [c608] at q619_0
                                have c620 := sf_mf tw618 (p := 1) (j := 0) rfl
                                have c621 := sf_mf tw618 (p := 71) (j := 1) rfl
                                have c622 := sf_mf tw618 (p := 1) (j := 5) rfl
                                have c623 := sf_mf tw618 (p := 71) (j := 5) rfl
                                have c624 := sf_mf tw618 (p := 13) (j := 1) rfl
                                have c625 := sf_mf tw618 (p := 71) (j := 10) rfl
                                have c626 := sf_mf tw618 (p := 21) (j := 1) rfl
                                have c627 := sf_mf tw618 (p := 71) (j := 18) rfl
                                have c628 := sf_mf tw618 (p := 35) (j := 0) rfl
                                have c629 := sf_ma tw618 (p := 3) rfl
                                have c630 := sf_ma tw618 (p := 72) rfl
                                have c631 := sf_mg tw618 (p := 10) rfl
                                have c632 := sf_ma tw618 (p := 93) rfl
                                have c633 := sf_mL tw618 (p := 130) rfl
                                refine sf_istore (L' := [(5, .inl (.int v597)), (0, .inl (.ref 100000)), (1, .inl (.ref 0)), (2, .inl (.ref 71)), (3, .inl (.ref 130)), (4, .inl (.int x4))]) rfl ?_
                                show kt_W_law_1404 N xs K _ _ _ _ _
                                refine sf_iinc (L' := [(6, .inl (.int v617)), (5, .inl (.int v597)), (0, .inl (.ref 100000)), (1, .inl (.ref 0)), (2, .inl (.ref 71)), (3, .inl (.ref 130))]) (x := x4) sf_c8 rfl rfl (by omega) (fun v634 ev634 => ?_)
                                refine sf_can (L' := [(0, .inl (.ref 100000)), (1, .inl (.ref 0)), (2, .inl (.ref 71)), (3, .inl (.ref 130)), (4, .inl (.int v634))]) rfl ?_
                                exact ih _ _ _ _ Iw618 (by omega) (by omega) (by omega) (by omega) (by rw [c620, c600]; rw [c621, c601]; rw [c622, c602]; rw [c623, c603]; rw [c624, c604]; rw [c625, c605]; rw [c626, c606]; rw [c627, c607]; rw [c628]; omega) (by rw [c629, c609]; rw [c630, c610]; rw [c621, c601]; first | exact f_1 | exact hJ) (by rw [c631, c611]; rw [c632, c612]; first | exact f_2 | exact hK2) (by omega)
                              · clear h592
                                refine sf_sw1 sf_c13 (fun h635 => ?_) (fun h635 => ?_)
                                · refine sf_aload rfl ?_
                                  refine sf_aload rfl ?_
                                  refine sf_iload rfl ?_
                                  refine sf_iconst sf_c1 (fun z636 ez636 => ?_)
                                  refine sf_iadd (by omega) (fun v637 ev637 => ?_)
                                  refine sf_sldk (x := x4) (k := 1) (by omega) (by omega) (by omega) ?_
                                  clear ev637 ez636
                                  refine sf_aload rfl ?_
                                  refine sf_iload rfl ?_
                                  refine sf_iconst sf_c2 (fun z638 ez638 => ?_)
                                  refine sf_iadd (by omega) (fun v639 ev639 => ?_)
                                  refine sf_sldk (x := x4) (k := 2) (by omega) (by omega) (by omega) ?_
                                  clear ev639 ez638
                                  refine sf_aload rfl ?_
                                  refine sf_iload rfl ?_
                                  refine sf_iconst sf_c3 (fun z640 ez640 => ?_)
                                  refine sf_iadd (by omega) (fun v641 ev641 => ?_)
                                  refine sf_sldk (x := x4) (k := 3) (by omega) (by omega) (by omega) ?_
                                  clear ev641 ez640
                                  refine sf_aload rfl ?_
                                  refine sf_iload rfl ?_
                                  refine sf_iconst sf_c4 (fun z642 ez642 => ?_)
                                  refine sf_iadd (by omega) (fun v643 ev643 => ?_)
                                  refine sf_sldk (x := x4) (k := 4) (by omega) (by omega) (by omega) ?_
                                  clear ev643 ez642
                                  refine sf_aload rfl ?_
                                  refine sf_iload rfl ?_
                                  refine sf_iconst sf_c5 (fun z644 ez644 => ?_)
                                  refine sf_iadd (by omega) (fun v645 ev645 => ?_)
                                  refine sf_sldk (x := x4) (k := 5) (by omega) (by omega) (by omega) ?_
                                  clear ev645 ez644
                                  refine sf_aload rfl ?_
                                  refine sf_iload rfl ?_
                                  refine sf_iconst sf_c6 (fun z646 ez646 => ?_)
                                  refine sf_iadd (by omega) (fun v647 ev647 => ?_)
                                  refine sf_sldk (x := x4) (k := 6) (by omega) (by omega) (by omega) ?_
                                  clear ev647 ez646
                                  refine sf_aload rfl ?_
                                  refine sf_iload rfl ?_
                                  refine sf_iconst sf_c7 (fun z648 ez648 => ?_)
                                  refine sf_iadd (by omega) (fun v649 ev649 => ?_)
                                  refine sf_sldk (x := x4) (k := 7) (by omega) (by omega) (by omega) ?_
                                  clear ev649 ez648
                                  refine sf_f1_eq (fun h650 => ?_) (fun h650 => ?_)
                                  · refine sf_iconst sf_c0 (fun z651 ez651 => ?_)
                                    refine sf_aload rfl ?_
                                    refine sf_callv9 rfl (by omega) (by omega) ?_
                                    refine sc_W_line_0_130 I_w (by omega) (by omega) (fun v652 w653 Iw653 tw653 lv652 uv652 => ?_)
                                    have c655 := sf_mf tw653 (p := 1) (j := 0) rfl
                                    have c656 := sf_mf tw653 (p := 71) (j := 1) rfl
                                    have c657 := sf_mf tw653 (p := 1) (j := 5) rfl
                                    have c658 := sf_mf tw653 (p := 71) (j := 5) rfl
                                    have c659 := sf_mf tw653 (p := 13) (j := 1) rfl
                                    have c660 := sf_mf tw653 (p := 71) (j := 10) rfl
                                    have c661 := sf_mf tw653 (p := 21) (j := 1) rfl
                                    have c662 := sf_mf tw653 (p := 71) (j := 18) rfl
                                    have c663 := sf_mf tw653 (p := 35) (j := 0) rfl
                                    have c664 := sf_mf tw653 (p := 71) (j := 35) rfl
                                    have c665 := sf_ma tw653 (p := 3) rfl
                                    have c666 := sf_ma tw653 (p := 72) rfl
                                    have c667 := sf_mg tw653 (p := 10) rfl
                                    have c668 := sf_ma tw653 (p := 93) rfl
                                    refine sf_istore (L' := [(0, .inl (.ref 100000)), (1, .inl (.ref 0)), (2, .inl (.ref 71)), (3, .inl (.ref 130)), (4, .inl (.int x4))]) rfl ?_
                                    refine sf_aload rfl ?_
                                    refine sf_aload rfl ?_
                                    refine sf_iload rfl ?_
                                    refine sf_iconst sf_c1 (fun z669 ez669 => ?_)
                                    refine sf_iadd (by omega) (fun v670 ev670 => ?_)
                                    refine sf_sldk (x := x4) (k := 1) (by omega) (by omega) (by omega) ?_
                                    clear ev670 ez669
                                    refine sf_aload rfl ?_
                                    refine sf_iload rfl ?_
                                    refine sf_iconst sf_c2 (fun z671 ez671 => ?_)
                                    refine sf_iadd (by omega) (fun v672 ev672 => ?_)
                                    refine sf_sldk (x := x4) (k := 2) (by omega) (by omega) (by omega) ?_
                                    clear ev672 ez671
                                    refine sf_aload rfl ?_
                                    refine sf_iload rfl ?_
                                    refine sf_iconst sf_c3 (fun z673 ez673 => ?_)
                                    refine sf_iadd (by omega) (fun v674 ev674 => ?_)
                                    refine sf_sldk (x := x4) (k := 3) (by omega) (by omega) (by omega) ?_
                                    clear ev674 ez673
                                    refine sf_aload rfl ?_
                                    refine sf_iload rfl ?_
                                    refine sf_iconst sf_c4 (fun z675 ez675 => ?_)
                                    refine sf_iadd (by omega) (fun v676 ev676 => ?_)
                                    refine sf_sldk (x := x4) (k := 4) (by omega) (by omega) (by omega) ?_
                                    clear ev676 ez675
                                    refine sf_aload rfl ?_
                                    refine sf_iload rfl ?_
                                    refine sf_iconst sf_c5 (fun z677 ez677 => ?_)
                                    refine sf_iadd (by omega) (fun v678 ev678 => ?_)
                                    refine sf_sldk (x := x4) (k := 5) (by omega) (by omega) (by omega) ?_
                                    clear ev678 ez677
                                    refine sf_aload rfl ?_
                                    refine sf_iload rfl ?_
                                    refine sf_iconst sf_c6 (fun z679 ez679 => ?_)
                                    refine sf_iadd (by omega) (fun v680 ev680 => ?_)
                                    refine sf_sldk (x := x4) (k := 6) (by omega) (by omega) (by omega) ?_
                                    clear ev680 ez679
                                    refine sf_aload rfl ?_
                                    refine sf_iload rfl ?_
                                    refine sf_iconst sf_c7 (fun z681 ez681 => ?_)
                                    refine sf_iadd (by omega) (fun v682 ev682 => ?_)
                                    refine sf_sldk (x := x4) (k := 7) (by omega) (by omega) (by omega) ?_
                                    clear ev682 ez681
                                    refine sf_f1_eq (fun h683 => ?_) (fun h683 => absurd h683 (by omega))
                                    refine sf_iconst sf_c0 (fun z684 ez684 => ?_)
                                    refine sf_callv8 rfl (by omega) (by omega) ?_
                                    refine sf_rv Iw653 rfl ?_
                                    refine sc_M_line Iw653 (by omega) (by omega) (fun v685 w686 Iw686 tw686 lv685 uv685 => ?_)
                                    have c688 := sf_mf tw686 (p := 1) (j := 0) rfl
                                    have c689 := sf_mf tw686 (p := 71) (j := 1) rfl
                                    have c690 := sf_mf tw686 (p := 1) (j := 5) rfl
                                    have c691 := sf_mf tw686 (p := 71) (j := 5) rfl
                                    have c692 := sf_mf tw686 (p := 13) (j := 1) rfl
                                    have c693 := sf_mf tw686 (p := 71) (j := 10) rfl
                                    have c694 := sf_mf tw686 (p := 21) (j := 1) rfl
                                    have c695 := sf_mf tw686 (p := 71) (j := 18) rfl
                                    have c696 := sf_mf tw686 (p := 35) (j := 0) rfl
                                    have c697 := sf_mf tw686 (p := 71) (j := 35) rfl
                                    have c698 := sf_ma tw686 (p := 3) rfl
                                    have c699 := sf_ma tw686 (p := 72) rfl
                                    have c700 := sf_mg tw686 (p := 10) rfl
                                    have c701 := sf_ma tw686 (p := 93) rfl
                                    have c702 := sf_mL tw686 (p := 130) rfl
                                    refine sf_istore (L' := [(5, .inl (.int v652)), (0, .inl (.ref 100000)), (1, .inl (.ref 0)), (2, .inl (.ref 71)), (3, .inl (.ref 130)), (4, .inl (.int x4))]) rfl ?_
                                    show kt_W_law_1404 N xs K _ _ _ _ _
                                    refine sf_iinc (L' := [(6, .inl (.int v685)), (5, .inl (.int v652)), (0, .inl (.ref 100000)), (1, .inl (.ref 0)), (2, .inl (.ref 71)), (3, .inl (.ref 130))]) (x := x4) sf_c8 rfl rfl (by omega) (fun v703 ev703 => ?_)
                                    refine sf_can (L' := [(0, .inl (.ref 100000)), (1, .inl (.ref 0)), (2, .inl (.ref 71)), (3, .inl (.ref 130)), (4, .inl (.int v703))]) rfl ?_
                                    exact ih _ _ _ _ Iw686 (by omega) (by omega) (by omega) (by omega) (by rw [c688, c655]; rw [c689, c656]; rw [c690, c657]; rw [c691, c658]; rw [c692, c659]; rw [c693, c660]; rw [c694, c661]; rw [c695, c662]; rw [c696, c663]; rw [c697, c664]; omega) (by rw [c698, c665]; rw [c699, c666]; rw [c689, c656]; first | exact f_1 | exact hJ) (by rw [c700, c667]; rw [c701, c668]; first | exact f_2 | exact hK2) (by omega)
                                  · refine sf_iconst sf_c1 (fun z704 ez704 => ?_)
                                    show kt_W_law_892 N xs K _ _ _ _ _
                                    refine sf_aload rfl ?_
                                    refine sf_callv9 rfl (by omega) (by omega) ?_
                                    refine sc_W_line_0_130 I_w (by omega) (by omega) (fun v705 w706 Iw706 tw706 lv705 uv705 => ?_)
                                    have c708 := sf_mf tw706 (p := 1) (j := 0) rfl
                                    have c709 := sf_mf tw706 (p := 71) (j := 1) rfl
                                    have c710 := sf_mf tw706 (p := 1) (j := 5) rfl
                                    have c711 := sf_mf tw706 (p := 71) (j := 5) rfl
                                    have c712 := sf_mf tw706 (p := 13) (j := 1) rfl
                                    have c713 := sf_mf tw706 (p := 71) (j := 10) rfl
                                    have c714 := sf_mf tw706 (p := 21) (j := 1) rfl
                                    have c715 := sf_mf tw706 (p := 71) (j := 18) rfl
                                    have c716 := sf_mf tw706 (p := 35) (j := 0) rfl
                                    have c717 := sf_mf tw706 (p := 71) (j := 35) rfl
                                    have c718 := sf_ma tw706 (p := 3) rfl
                                    have c719 := sf_ma tw706 (p := 72) rfl
                                    have c720 := sf_mg tw706 (p := 10) rfl
                                    have c721 := sf_ma tw706 (p := 93) rfl
                                    refine sf_istore (L' := [(0, .inl (.ref 100000)), (1, .inl (.ref 0)), (2, .inl (.ref 71)), (3, .inl (.ref 130)), (4, .inl (.int x4))]) rfl ?_
                                    refine sf_aload rfl ?_
                                    refine sf_aload rfl ?_
                                    refine sf_iload rfl ?_
                                    refine sf_iconst sf_c1 (fun z722 ez722 => ?_)
                                    refine sf_iadd (by omega) (fun v723 ev723 => ?_)
                                    refine sf_sldk (x := x4) (k := 1) (by omega) (by omega) (by omega) ?_
                                    clear ev723 ez722
                                    refine sf_aload rfl ?_
                                    refine sf_iload rfl ?_
                                    refine sf_iconst sf_c2 (fun z724 ez724 => ?_)
                                    refine sf_iadd (by omega) (fun v725 ev725 => ?_)
                                    refine sf_sldk (x := x4) (k := 2) (by omega) (by omega) (by omega) ?_
                                    clear ev725 ez724
                                    refine sf_aload rfl ?_
                                    refine sf_iload rfl ?_
                                    refine sf_iconst sf_c3 (fun z726 ez726 => ?_)
                                    refine sf_iadd (by omega) (fun v727 ev727 => ?_)
                                    refine sf_sldk (x := x4) (k := 3) (by omega) (by omega) (by omega) ?_
                                    clear ev727 ez726
                                    refine sf_aload rfl ?_
                                    refine sf_iload rfl ?_
                                    refine sf_iconst sf_c4 (fun z728 ez728 => ?_)
                                    refine sf_iadd (by omega) (fun v729 ev729 => ?_)
                                    refine sf_sldk (x := x4) (k := 4) (by omega) (by omega) (by omega) ?_
                                    clear ev729 ez728
                                    refine sf_aload rfl ?_
                                    refine sf_iload rfl ?_
                                    refine sf_iconst sf_c5 (fun z730 ez730 => ?_)
                                    refine sf_iadd (by omega) (fun v731 ev731 => ?_)
                                    refine sf_sldk (x := x4) (k := 5) (by omega) (by omega) (by omega) ?_
                                    clear ev731 ez730
                                    refine sf_aload rfl ?_
                                    refine sf_iload rfl ?_
                                    refine sf_iconst sf_c6 (fun z732 ez732 => ?_)
                                    refine sf_iadd (by omega) (fun v733 ev733 => ?_)
                                    refine sf_sldk (x := x4) (k := 6) (by omega) (by omega) (by omega) ?_
                                    clear ev733 ez732
                                    refine sf_aload rfl ?_
                                    refine sf_iload rfl ?_
                                    refine sf_iconst sf_c7 (fun z734 ez734 => ?_)
                                    refine sf_iadd (by omega) (fun v735 ev735 => ?_)
                                    refine sf_sldk (x := x4) (k := 7) (by omega) (by omega) (by omega) ?_
                                    clear ev735 ez734
                                    refine sf_f1_eq (fun h736 => ?_) (fun h736 => ?_)
                                    · refine sf_iconst sf_c0 (fun z737 ez737 => ?_)
                                      refine sf_callv8 rfl (by omega) (by omega) ?_
                                      refine sf_rv Iw706 rfl ?_
                                      refine sc_M_line Iw706 (by omega) (by omega) (fun v738 w739 Iw739 tw739 lv738 uv738 => ?_)
                                      have c741 := sf_mf tw739 (p := 1) (j := 0) rfl
                                      have c742 := sf_mf tw739 (p := 71) (j := 1) rfl
                                      have c743 := sf_mf tw739 (p := 1) (j := 5) rfl
                                      have c744 := sf_mf tw739 (p := 71) (j := 5) rfl
                                      have c745 := sf_mf tw739 (p := 13) (j := 1) rfl
                                      have c746 := sf_mf tw739 (p := 71) (j := 10) rfl
                                      have c747 := sf_mf tw739 (p := 21) (j := 1) rfl
                                      have c748 := sf_mf tw739 (p := 71) (j := 18) rfl
                                      have c749 := sf_mf tw739 (p := 35) (j := 0) rfl
                                      have c750 := sf_mf tw739 (p := 71) (j := 35) rfl
                                      have c751 := sf_ma tw739 (p := 3) rfl
                                      have c752 := sf_ma tw739 (p := 72) rfl
                                      have c753 := sf_mg tw739 (p := 10) rfl
                                      have c754 := sf_ma tw739 (p := 93) rfl
                                      have c755 := sf_mL tw739 (p := 130) rfl
                                      refine sf_istore (L' := [(5, .inl (.int v705)), (0, .inl (.ref 100000)), (1, .inl (.ref 0)), (2, .inl (.ref 71)), (3, .inl (.ref 130)), (4, .inl (.int x4))]) rfl ?_
                                      show kt_W_law_1404 N xs K _ _ _ _ _
                                      refine sf_iinc (L' := [(6, .inl (.int v738)), (5, .inl (.int v705)), (0, .inl (.ref 100000)), (1, .inl (.ref 0)), (2, .inl (.ref 71)), (3, .inl (.ref 130))]) (x := x4) sf_c8 rfl rfl (by omega) (fun v756 ev756 => ?_)
                                      refine sf_can (L' := [(0, .inl (.ref 100000)), (1, .inl (.ref 0)), (2, .inl (.ref 71)), (3, .inl (.ref 130)), (4, .inl (.int v756))]) rfl ?_
                                      exact ih _ _ _ _ Iw739 (by omega) (by omega) (by omega) (by omega) (by rw [c741, c708]; rw [c742, c709]; rw [c743, c710]; rw [c744, c711]; rw [c745, c712]; rw [c746, c713]; rw [c747, c714]; rw [c748, c715]; rw [c749, c716]; rw [c750, c717]; omega) (by rw [c751, c718]; rw [c752, c719]; rw [c742, c709]; first | exact f_1 | exact hJ) (by rw [c753, c720]; rw [c754, c721]; first | exact f_2 | exact hK2) (by omega)
                                    · refine sf_iconst sf_c1 (fun z757 ez757 => ?_)
                                      show kt_W_law_951 N xs K _ _ _ _ _
                                      refine sf_callv8 rfl (by omega) (by omega) ?_
                                      refine sf_rv Iw706 rfl ?_
                                      refine sc_M_line Iw706 (by omega) (by omega) (fun v758 w759 Iw759 tw759 lv758 uv758 => ?_)
                                      have c761 := sf_mf tw759 (p := 1) (j := 0) rfl
                                      have c762 := sf_mf tw759 (p := 71) (j := 1) rfl
                                      have c763 := sf_mf tw759 (p := 1) (j := 5) rfl
                                      have c764 := sf_mf tw759 (p := 71) (j := 5) rfl
                                      have c765 := sf_mf tw759 (p := 13) (j := 1) rfl
                                      have c766 := sf_mf tw759 (p := 71) (j := 10) rfl
                                      have c767 := sf_mf tw759 (p := 21) (j := 1) rfl
                                      have c768 := sf_mf tw759 (p := 71) (j := 18) rfl
                                      have c769 := sf_mf tw759 (p := 35) (j := 0) rfl
                                      have c770 := sf_mf tw759 (p := 71) (j := 35) rfl
                                      have c771 := sf_ma tw759 (p := 3) rfl
                                      have c772 := sf_ma tw759 (p := 72) rfl
                                      have c773 := sf_mg tw759 (p := 10) rfl
                                      have c774 := sf_ma tw759 (p := 93) rfl
                                      have c775 := sf_mL tw759 (p := 130) rfl
                                      refine sf_istore (L' := [(5, .inl (.int v705)), (0, .inl (.ref 100000)), (1, .inl (.ref 0)), (2, .inl (.ref 71)), (3, .inl (.ref 130)), (4, .inl (.int x4))]) rfl ?_
                                      show kt_W_law_1404 N xs K _ _ _ _ _
                                      refine sf_iinc (L' := [(6, .inl (.int v758)), (5, .inl (.int v705)), (0, .inl (.ref 100000)), (1, .inl (.ref 0)), (2, .inl (.ref 71)), (3, .inl (.ref 130))]) (x := x4) sf_c8 rfl rfl (by omega) (fun v776 ev776 => ?_)
                                      refine sf_can (L' := [(0, .inl (.ref 100000)), (1, .inl (.ref 0)), (2, .inl (.ref 71)), (3, .inl (.ref 130)), (4, .inl (.int v776))]) rfl ?_
                                      exact ih _ _ _ _ Iw759 (by omega) (by omega) (by omega) (by omega) (by rw [c761, c708]; rw [c762, c709]; rw [c763, c710]; rw [c764, c711]; rw [c765, c712]; rw [c766, c713]; rw [c767, c714]; rw [c768, c715]; rw [c769, c716]; rw [c770, c717]; omega) (by rw [c771, c718]; rw [c772, c719]; rw [c762, c709]; first | exact f_1 | exact hJ) (by rw [c773, c720]; rw [c774, c721]; first | exact f_2 | exact hK2) (by omega)
                                · clear h635
                                  refine sf_sw1 sf_c14 (fun h777 => ?_) (fun h777 => ?_)
                                  · refine sf_aload rfl ?_
                                    refine sf_aload rfl ?_
                                    refine sf_iload rfl ?_
                                    refine sf_iconst sf_c1 (fun z778 ez778 => ?_)
                                    refine sf_iadd (by omega) (fun v779 ev779 => ?_)
                                    refine sf_sldk (x := x4) (k := 1) (by omega) (by omega) (by omega) ?_
                                    clear ev779 ez778
                                    refine sf_aload rfl ?_
                                    refine sf_iload rfl ?_
                                    refine sf_iconst sf_c2 (fun z780 ez780 => ?_)
                                    refine sf_iadd (by omega) (fun v781 ev781 => ?_)
                                    refine sf_sldk (x := x4) (k := 2) (by omega) (by omega) (by omega) ?_
                                    clear ev781 ez780
                                    refine sf_aload rfl ?_
                                    refine sf_iload rfl ?_
                                    refine sf_iconst sf_c3 (fun z782 ez782 => ?_)
                                    refine sf_iadd (by omega) (fun v783 ev783 => ?_)
                                    refine sf_sldk (x := x4) (k := 3) (by omega) (by omega) (by omega) ?_
                                    clear ev783 ez782
                                    refine sf_callv4 rfl (by omega) (by omega) ?_
                                    refine sc_W_charge_0 I_w  (fun v784 w785 Iw785 tw785 lv784 uv784 => ?_)
                                    have c787 := sf_mf tw785 (p := 1) (j := 0) rfl
                                    have c788 := sf_mf tw785 (p := 71) (j := 1) rfl
                                    have c789 := sf_mf tw785 (p := 1) (j := 5) rfl
                                    have c790 := sf_mf tw785 (p := 71) (j := 5) rfl
                                    have c791 := sf_mf tw785 (p := 13) (j := 1) rfl
                                    have c792 := sf_mf tw785 (p := 71) (j := 10) rfl
                                    have c793 := sf_mf tw785 (p := 21) (j := 1) rfl
                                    have c794 := sf_mf tw785 (p := 71) (j := 18) rfl
                                    have c795 := sf_mf tw785 (p := 35) (j := 0) rfl
                                    have c796 := sf_mf tw785 (p := 71) (j := 35) rfl
                                    have c797 := sf_ma tw785 (p := 3) rfl
                                    have c798 := sf_ma tw785 (p := 72) rfl
                                    have c799 := sf_mg tw785 (p := 10) rfl
                                    have c800 := sf_ma tw785 (p := 93) rfl
                                    have c801 := sf_mL tw785 (p := 130) rfl
                                    refine sf_istore (L' := [(0, .inl (.ref 100000)), (1, .inl (.ref 0)), (2, .inl (.ref 71)), (3, .inl (.ref 130)), (4, .inl (.int x4))]) rfl ?_
                                    refine sf_aload rfl ?_
                                    refine sf_aload rfl ?_
                                    refine sf_iload rfl ?_
                                    refine sf_iconst sf_c1 (fun z802 ez802 => ?_)
                                    refine sf_iadd (by omega) (fun v803 ev803 => ?_)
                                    refine sf_sldk (x := x4) (k := 1) (by omega) (by omega) (by omega) ?_
                                    clear ev803 ez802
                                    refine sf_aload rfl ?_
                                    refine sf_iload rfl ?_
                                    refine sf_iconst sf_c2 (fun z804 ez804 => ?_)
                                    refine sf_iadd (by omega) (fun v805 ev805 => ?_)
                                    refine sf_sldk (x := x4) (k := 2) (by omega) (by omega) (by omega) ?_
                                    clear ev805 ez804
                                    refine sf_aload rfl ?_
                                    refine sf_iload rfl ?_
                                    refine sf_iconst sf_c3 (fun z806 ez806 => ?_)
                                    refine sf_iadd (by omega) (fun v807 ev807 => ?_)
                                    refine sf_sldk (x := x4) (k := 3) (by omega) (by omega) (by omega) ?_
                                    clear ev807 ez806
                                    refine sf_callv4 rfl (by omega) (by omega) ?_
                                    refine sf_rv Iw785 rfl ?_
                                    refine sc_M_charge Iw785  (fun w808 Iw808 tw808 => ?_)
                                    have c810 := sf_mf tw808 (p := 1) (j := 0) rfl
                                    have c811 := sf_mf tw808 (p := 71) (j := 1) rfl
                                    have c812 := sf_mf tw808 (p := 1) (j := 5) rfl
                                    have c813 := sf_mf tw808 (p := 71) (j := 5) rfl
                                    have c814 := sf_mf tw808 (p := 13) (j := 1) rfl
                                    have c815 := sf_mf tw808 (p := 71) (j := 10) rfl
                                    have c816 := sf_mf tw808 (p := 21) (j := 1) rfl
                                    have c817 := sf_mf tw808 (p := 71) (j := 18) rfl
                                    have c818 := sf_mf tw808 (p := 35) (j := 0) rfl
                                    have c819 := sf_mf tw808 (p := 71) (j := 35) rfl
                                    have c820 := sf_ma tw808 (p := 3) rfl
                                    have c821 := sf_ma tw808 (p := 72) rfl
                                    have c822 := sf_mg tw808 (p := 10) rfl
                                    have c823 := sf_ma tw808 (p := 93) rfl
                                    have c824 := sf_mL tw808 (p := 130) rfl
                                    show kt_W_law_1404 N xs K _ _ _ _ _
                                    refine sf_iinc (L' := [(5, .inl (.int v784)), (0, .inl (.ref 100000)), (1, .inl (.ref 0)), (2, .inl (.ref 71)), (3, .inl (.ref 130))]) (x := x4) sf_c8 rfl rfl (by omega) (fun v825 ev825 => ?_)
                                    refine sf_can (L' := [(0, .inl (.ref 100000)), (1, .inl (.ref 0)), (2, .inl (.ref 71)), (3, .inl (.ref 130)), (4, .inl (.int v825))]) rfl ?_
                                    exact ih _ _ _ _ Iw808 (by omega) (by omega) (by omega) (by omega) (by rw [c810, c787]; rw [c811, c788]; rw [c812, c789]; rw [c813, c790]; rw [c814, c791]; rw [c815, c792]; rw [c816, c793]; rw [c817, c794]; rw [c818, c795]; rw [c819, c796]; omega) (by rw [c820, c797]; rw [c821, c798]; rw [c811, c788]; first | exact f_1 | exact hJ) (by rw [c822, c799]; rw [c823, c800]; first | exact f_2 | exact hK2) (by omega)
                                  · clear h777
                                    refine sf_sw1 sf_c15 (fun h826 => ?_) (fun h826 => ?_)
                                    · refine sf_aload rfl ?_
                                      refine sf_aload rfl ?_
                                      refine sf_iload rfl ?_
                                      refine sf_iconst sf_c1 (fun z827 ez827 => ?_)
                                      refine sf_iadd (by omega) (fun v828 ev828 => ?_)
                                      refine sf_sldk (x := x4) (k := 1) (by omega) (by omega) (by omega) ?_
                                      clear ev828 ez827
                                      refine sf_aload rfl ?_
                                      refine sf_iload rfl ?_
                                      refine sf_iconst sf_c2 (fun z829 ez829 => ?_)
                                      refine sf_iadd (by omega) (fun v830 ev830 => ?_)
                                      refine sf_sldk (x := x4) (k := 2) (by omega) (by omega) (by omega) ?_
                                      clear ev830 ez829
                                      refine sf_aload rfl ?_
                                      refine sf_iload rfl ?_
                                      refine sf_iconst sf_c3 (fun z831 ez831 => ?_)
                                      refine sf_iadd (by omega) (fun v832 ev832 => ?_)
                                      refine sf_sldk (x := x4) (k := 3) (by omega) (by omega) (by omega) ?_
                                      clear ev832 ez831
                                      refine sf_aload rfl ?_
                                      refine sf_callv5 rfl (by omega) (by omega) ?_
                                      refine sc_W_lineOf_0_130 I_w  (fun v833 w834 Iw834 tw834 lv833 uv833 => ?_)
                                      have c836 := sf_mf tw834 (p := 1) (j := 0) rfl
                                      have c837 := sf_mf tw834 (p := 71) (j := 1) rfl
                                      have c838 := sf_mf tw834 (p := 1) (j := 5) rfl
                                      have c839 := sf_mf tw834 (p := 71) (j := 5) rfl
                                      have c840 := sf_mf tw834 (p := 13) (j := 1) rfl
                                      have c841 := sf_mf tw834 (p := 71) (j := 10) rfl
                                      have c842 := sf_mf tw834 (p := 21) (j := 1) rfl
                                      have c843 := sf_mf tw834 (p := 71) (j := 18) rfl
                                      have c844 := sf_mf tw834 (p := 35) (j := 0) rfl
                                      have c845 := sf_mf tw834 (p := 71) (j := 35) rfl
                                      have c846 := sf_ma tw834 (p := 3) rfl
                                      have c847 := sf_ma tw834 (p := 72) rfl
                                      have c848 := sf_mg tw834 (p := 10) rfl
                                      have c849 := sf_ma tw834 (p := 93) rfl
                                      refine sf_istore (L' := [(0, .inl (.ref 100000)), (1, .inl (.ref 0)), (2, .inl (.ref 71)), (3, .inl (.ref 130)), (4, .inl (.int x4))]) rfl ?_
                                      refine sf_aload rfl ?_
                                      refine sf_aload rfl ?_
                                      refine sf_iload rfl ?_
                                      refine sf_iconst sf_c1 (fun z850 ez850 => ?_)
                                      refine sf_iadd (by omega) (fun v851 ev851 => ?_)
                                      refine sf_sldk (x := x4) (k := 1) (by omega) (by omega) (by omega) ?_
                                      clear ev851 ez850
                                      refine sf_aload rfl ?_
                                      refine sf_iload rfl ?_
                                      refine sf_iconst sf_c2 (fun z852 ez852 => ?_)
                                      refine sf_iadd (by omega) (fun v853 ev853 => ?_)
                                      refine sf_sldk (x := x4) (k := 2) (by omega) (by omega) (by omega) ?_
                                      clear ev853 ez852
                                      refine sf_aload rfl ?_
                                      refine sf_iload rfl ?_
                                      refine sf_iconst sf_c3 (fun z854 ez854 => ?_)
                                      refine sf_iadd (by omega) (fun v855 ev855 => ?_)
                                      refine sf_sldk (x := x4) (k := 3) (by omega) (by omega) (by omega) ?_
                                      clear ev855 ez854
                                      refine sf_callv4 rfl (by omega) (by omega) ?_
                                      refine sf_rv Iw834 rfl ?_
                                      refine sc_M_lineOf Iw834  (fun v856 w857 Iw857 tw857 => ?_)
                                      have c859 := sf_mf tw857 (p := 1) (j := 0) rfl
                                      have c860 := sf_mf tw857 (p := 71) (j := 1) rfl
                                      have c861 := sf_mf tw857 (p := 1) (j := 5) rfl
                                      have c862 := sf_mf tw857 (p := 71) (j := 5) rfl
                                      have c863 := sf_mf tw857 (p := 13) (j := 1) rfl
                                      have c864 := sf_mf tw857 (p := 71) (j := 10) rfl
                                      have c865 := sf_mf tw857 (p := 21) (j := 1) rfl
                                      have c866 := sf_mf tw857 (p := 71) (j := 18) rfl
                                      have c867 := sf_mf tw857 (p := 35) (j := 0) rfl
                                      have c868 := sf_mf tw857 (p := 71) (j := 35) rfl
                                      have c869 := sf_ma tw857 (p := 3) rfl
                                      have c870 := sf_ma tw857 (p := 72) rfl
                                      have c871 := sf_mg tw857 (p := 10) rfl
                                      have c872 := sf_ma tw857 (p := 93) rfl
                                      have c873 := sf_mL tw857 (p := 130) rfl
                                      refine sf_lstore (L' := [(5, .inl (.int v833)), (0, .inl (.ref 100000)), (1, .inl (.ref 0)), (2, .inl (.ref 71)), (3, .inl (.ref 130)), (4, .inl (.int x4))]) rfl ?_
                                      show kt_W_law_1404 N xs K _ _ _ _ _
                                      refine sf_iinc (L' := [(6, .inl (.long v856)), (5, .inl (.int v833)), (0, .inl (.ref 100000)), (1, .inl (.ref 0)), (2, .inl (.ref 71)), (3, .inl (.ref 130))]) (x := x4) sf_c8 rfl rfl (by omega) (fun v874 ev874 => ?_)
                                      refine sf_can (L' := [(0, .inl (.ref 100000)), (1, .inl (.ref 0)), (2, .inl (.ref 71)), (3, .inl (.ref 130)), (4, .inl (.int v874))]) rfl ?_
                                      exact ih _ _ _ _ Iw857 (by omega) (by omega) (by omega) (by omega) (by rw [c859, c836]; rw [c860, c837]; rw [c861, c838]; rw [c862, c839]; rw [c863, c840]; rw [c864, c841]; rw [c865, c842]; rw [c866, c843]; rw [c867, c844]; rw [c868, c845]; omega) (by rw [c869, c846]; rw [c870, c847]; rw [c860, c837]; first | exact f_1 | exact hJ) (by rw [c871, c848]; rw [c872, c849]; first | exact f_2 | exact hK2) (by omega)
                                    · clear h826
                                      refine sf_sw1 sf_c16 (fun h875 => ?_) (fun h875 => ?_)
                                      · refine sf_aload rfl ?_
                                        refine sf_aload rfl ?_
                                        refine sf_iload rfl ?_
                                        refine sf_iconst sf_c1 (fun z876 ez876 => ?_)
                                        refine sf_iadd (by omega) (fun v877 ev877 => ?_)
                                        refine sf_sldk (x := x4) (k := 1) (by omega) (by omega) (by omega) ?_
                                        clear ev877 ez876
                                        refine sf_aload rfl ?_
                                        refine sf_callv3 rfl (by omega) (by omega) ?_
                                        refine sc_W_accept_0_130 I_w  (fun v878 w879 Iw879 tw879 lv878 uv878 => ?_)
                                        have c881 := sf_mf tw879 (p := 1) (j := 0) rfl
                                        have c882 := sf_mf tw879 (p := 71) (j := 1) rfl
                                        have c883 := sf_mf tw879 (p := 1) (j := 5) rfl
                                        have c884 := sf_mf tw879 (p := 71) (j := 5) rfl
                                        have c885 := sf_mf tw879 (p := 13) (j := 1) rfl
                                        have c886 := sf_mf tw879 (p := 71) (j := 10) rfl
                                        have c887 := sf_mf tw879 (p := 21) (j := 1) rfl
                                        have c888 := sf_mf tw879 (p := 71) (j := 18) rfl
                                        have c889 := sf_mf tw879 (p := 35) (j := 0) rfl
                                        have c890 := sf_mf tw879 (p := 71) (j := 35) rfl
                                        have c891 := sf_ma tw879 (p := 3) rfl
                                        have c892 := sf_ma tw879 (p := 72) rfl
                                        have c893 := sf_mg tw879 (p := 10) rfl
                                        have c894 := sf_ma tw879 (p := 93) rfl
                                        refine sf_istore (L' := [(0, .inl (.ref 100000)), (1, .inl (.ref 0)), (2, .inl (.ref 71)), (3, .inl (.ref 130)), (4, .inl (.int x4))]) rfl ?_
                                        refine sf_aload rfl ?_
                                        refine sf_aload rfl ?_
                                        refine sf_iload rfl ?_
                                        refine sf_iconst sf_c1 (fun z895 ez895 => ?_)
                                        refine sf_iadd (by omega) (fun v896 ev896 => ?_)
                                        refine sf_sldk (x := x4) (k := 1) (by omega) (by omega) (by omega) ?_
                                        clear ev896 ez895
                                        refine sf_callv2 rfl (by omega) (by omega) ?_
                                        refine sf_rv Iw879 rfl ?_
                                        refine sc_M_accept Iw879  (fun v897 w898 Iw898 tw898 => ?_)
                                        have c900 := sf_mf tw898 (p := 1) (j := 0) rfl
                                        have c901 := sf_mf tw898 (p := 71) (j := 1) rfl
                                        have c902 := sf_mf tw898 (p := 1) (j := 5) rfl
                                        have c903 := sf_mf tw898 (p := 71) (j := 5) rfl
                                        have c904 := sf_mf tw898 (p := 13) (j := 1) rfl
                                        have c905 := sf_mf tw898 (p := 71) (j := 10) rfl
                                        have c906 := sf_mf tw898 (p := 21) (j := 1) rfl
                                        have c907 := sf_mf tw898 (p := 71) (j := 18) rfl
                                        have c908 := sf_mf tw898 (p := 35) (j := 0) rfl
                                        have c909 := sf_mf tw898 (p := 71) (j := 35) rfl
                                        have c910 := sf_ma tw898 (p := 3) rfl
                                        have c911 := sf_ma tw898 (p := 72) rfl
                                        have c912 := sf_mg tw898 (p := 10) rfl
                                        have c913 := sf_ma tw898 (p := 93) rfl
                                        have c914 := sf_mL tw898 (p := 130) rfl
                                        refine sf_lstore (L' := [(5, .inl (.int v878)), (0, .inl (.ref 100000)), (1, .inl (.ref 0)), (2, .inl (.ref 71)), (3, .inl (.ref 130)), (4, .inl (.int x4))]) rfl ?_
                                        show kt_W_law_1404 N xs K _ _ _ _ _
                                        refine sf_iinc (L' := [(6, .inl (.long v897)), (5, .inl (.int v878)), (0, .inl (.ref 100000)), (1, .inl (.ref 0)), (2, .inl (.ref 71)), (3, .inl (.ref 130))]) (x := x4) sf_c8 rfl rfl (by omega) (fun v915 ev915 => ?_)
                                        refine sf_can (L' := [(0, .inl (.ref 100000)), (1, .inl (.ref 0)), (2, .inl (.ref 71)), (3, .inl (.ref 130)), (4, .inl (.int v915))]) rfl ?_
                                        exact ih _ _ _ _ Iw898 (by omega) (by omega) (by omega) (by omega) (by rw [c900, c881]; rw [c901, c882]; rw [c902, c883]; rw [c903, c884]; rw [c904, c885]; rw [c905, c886]; rw [c906, c887]; rw [c907, c888]; rw [c908, c889]; rw [c909, c890]; omega) (by rw [c910, c891]; rw [c911, c892]; rw [c901, c882]; first | exact f_1 | exact hJ) (by rw [c912, c893]; rw [c913, c894]; first | exact f_2 | exact hK2) (by omega)
                                      · clear h875
                                        refine sf_sw1 sf_c17 (fun h916 => ?_) (fun h916 => ?_)
                                        · refine sf_aload rfl ?_
                                          refine sf_aload rfl ?_
                                          refine sf_iload rfl ?_
                                          refine sf_iconst sf_c1 (fun z917 ez917 => ?_)
                                          refine sf_iadd (by omega) (fun v918 ev918 => ?_)
                                          refine sf_sldk (x := x4) (k := 1) (by omega) (by omega) (by omega) ?_
                                          clear ev918 ez917
                                          refine sf_aload rfl ?_
                                          refine sf_iload rfl ?_
                                          refine sf_iconst sf_c2 (fun z919 ez919 => ?_)
                                          refine sf_iadd (by omega) (fun v920 ev920 => ?_)
                                          refine sf_sldk (x := x4) (k := 2) (by omega) (by omega) (by omega) ?_
                                          clear ev920 ez919
                                          refine sf_aload rfl ?_
                                          refine sf_iload rfl ?_
                                          refine sf_iconst sf_c3 (fun z921 ez921 => ?_)
                                          refine sf_iadd (by omega) (fun v922 ev922 => ?_)
                                          refine sf_sldk (x := x4) (k := 3) (by omega) (by omega) (by omega) ?_
                                          clear ev922 ez921
                                          refine sf_aload rfl ?_
                                          refine sf_iload rfl ?_
                                          refine sf_iconst sf_c4 (fun z923 ez923 => ?_)
                                          refine sf_iadd (by omega) (fun v924 ev924 => ?_)
                                          refine sf_sldk (x := x4) (k := 4) (by omega) (by omega) (by omega) ?_
                                          clear ev924 ez923
                                          refine sf_aload rfl ?_
                                          refine sf_callv6 rfl (by omega) (by omega) ?_
                                          refine sc_W_amend_0_130 I_w  (fun v925 w926 Iw926 tw926 lv925 uv925 => ?_)
                                          have c928 := sf_mf tw926 (p := 1) (j := 0) rfl
                                          have c929 := sf_mf tw926 (p := 71) (j := 1) rfl
                                          have c930 := sf_mf tw926 (p := 1) (j := 5) rfl
                                          have c931 := sf_mf tw926 (p := 71) (j := 5) rfl
                                          have c932 := sf_mf tw926 (p := 13) (j := 1) rfl
                                          have c933 := sf_mf tw926 (p := 71) (j := 10) rfl
                                          have c934 := sf_mf tw926 (p := 21) (j := 1) rfl
                                          have c935 := sf_mf tw926 (p := 71) (j := 18) rfl
                                          have c936 := sf_mf tw926 (p := 35) (j := 0) rfl
                                          have c937 := sf_mf tw926 (p := 71) (j := 35) rfl
                                          have c938 := sf_ma tw926 (p := 3) rfl
                                          have c939 := sf_ma tw926 (p := 72) rfl
                                          have c940 := sf_mg tw926 (p := 10) rfl
                                          have c941 := sf_ma tw926 (p := 93) rfl
                                          refine sf_istore (L' := [(0, .inl (.ref 100000)), (1, .inl (.ref 0)), (2, .inl (.ref 71)), (3, .inl (.ref 130)), (4, .inl (.int x4))]) rfl ?_
                                          refine sf_aload rfl ?_
                                          refine sf_aload rfl ?_
                                          refine sf_iload rfl ?_
                                          refine sf_iconst sf_c1 (fun z942 ez942 => ?_)
                                          refine sf_iadd (by omega) (fun v943 ev943 => ?_)
                                          refine sf_sldk (x := x4) (k := 1) (by omega) (by omega) (by omega) ?_
                                          clear ev943 ez942
                                          refine sf_aload rfl ?_
                                          refine sf_iload rfl ?_
                                          refine sf_iconst sf_c2 (fun z944 ez944 => ?_)
                                          refine sf_iadd (by omega) (fun v945 ev945 => ?_)
                                          refine sf_sldk (x := x4) (k := 2) (by omega) (by omega) (by omega) ?_
                                          clear ev945 ez944
                                          refine sf_aload rfl ?_
                                          refine sf_iload rfl ?_
                                          refine sf_iconst sf_c3 (fun z946 ez946 => ?_)
                                          refine sf_iadd (by omega) (fun v947 ev947 => ?_)
                                          refine sf_sldk (x := x4) (k := 3) (by omega) (by omega) (by omega) ?_
                                          clear ev947 ez946
                                          refine sf_aload rfl ?_
                                          refine sf_iload rfl ?_
                                          refine sf_iconst sf_c4 (fun z948 ez948 => ?_)
                                          refine sf_iadd (by omega) (fun v949 ev949 => ?_)
                                          refine sf_sldk (x := x4) (k := 4) (by omega) (by omega) (by omega) ?_
                                          clear ev949 ez948
                                          refine sf_callv5 rfl (by omega) (by omega) ?_
                                          refine sf_rv Iw926 rfl ?_
                                          refine sc_M_amend Iw926  (fun v950 w951 Iw951 tw951 => ?_)
                                          have c953 := sf_mf tw951 (p := 1) (j := 0) rfl
                                          have c954 := sf_mf tw951 (p := 71) (j := 1) rfl
                                          have c955 := sf_mf tw951 (p := 1) (j := 5) rfl
                                          have c956 := sf_mf tw951 (p := 71) (j := 5) rfl
                                          have c957 := sf_mf tw951 (p := 13) (j := 1) rfl
                                          have c958 := sf_mf tw951 (p := 71) (j := 10) rfl
                                          have c959 := sf_mf tw951 (p := 21) (j := 1) rfl
                                          have c960 := sf_mf tw951 (p := 71) (j := 18) rfl
                                          have c961 := sf_mf tw951 (p := 35) (j := 0) rfl
                                          have c962 := sf_mf tw951 (p := 71) (j := 35) rfl
                                          have c963 := sf_ma tw951 (p := 3) rfl
                                          have c964 := sf_ma tw951 (p := 72) rfl
                                          have c965 := sf_mg tw951 (p := 10) rfl
                                          have c966 := sf_ma tw951 (p := 93) rfl
                                          have c967 := sf_mL tw951 (p := 130) rfl
                                          refine sf_lstore (L' := [(5, .inl (.int v925)), (0, .inl (.ref 100000)), (1, .inl (.ref 0)), (2, .inl (.ref 71)), (3, .inl (.ref 130)), (4, .inl (.int x4))]) rfl ?_
                                          show kt_W_law_1404 N xs K _ _ _ _ _
                                          refine sf_iinc (L' := [(6, .inl (.long v950)), (5, .inl (.int v925)), (0, .inl (.ref 100000)), (1, .inl (.ref 0)), (2, .inl (.ref 71)), (3, .inl (.ref 130))]) (x := x4) sf_c8 rfl rfl (by omega) (fun v968 ev968 => ?_)
                                          refine sf_can (L' := [(0, .inl (.ref 100000)), (1, .inl (.ref 0)), (2, .inl (.ref 71)), (3, .inl (.ref 130)), (4, .inl (.int v968))]) rfl ?_
                                          exact ih _ _ _ _ Iw951 (by omega) (by omega) (by omega) (by omega) (by rw [c953, c928]; rw [c954, c929]; rw [c955, c930]; rw [c956, c931]; rw [c957, c932]; rw [c958, c933]; rw [c959, c934]; rw [c960, c935]; rw [c961, c936]; rw [c962, c937]; omega) (by rw [c963, c938]; rw [c964, c939]; rw [c954, c929]; first | exact f_1 | exact hJ) (by rw [c965, c940]; rw [c966, c941]; first | exact f_2 | exact hK2) (by omega)
                                        · clear h916
                                          refine sf_sw1 sf_c18 (fun h969 => ?_) (fun h969 => ?_)
                                          · refine sf_aload rfl ?_
                                            refine sf_aload rfl ?_
                                            refine sf_iload rfl ?_
                                            refine sf_iconst sf_c1 (fun z970 ez970 => ?_)
                                            refine sf_iadd (by omega) (fun v971 ev971 => ?_)
                                            refine sf_sldk (x := x4) (k := 1) (by omega) (by omega) (by omega) ?_
                                            clear ev971 ez970
                                            refine sf_aload rfl ?_
                                            refine sf_iload rfl ?_
                                            refine sf_iconst sf_c2 (fun z972 ez972 => ?_)
                                            refine sf_iadd (by omega) (fun v973 ev973 => ?_)
                                            refine sf_sldk (x := x4) (k := 2) (by omega) (by omega) (by omega) ?_
                                            clear ev973 ez972
                                            refine sf_aload rfl ?_
                                            refine sf_callv4 rfl (by omega) (by omega) ?_
                                            refine sc_W_release_0_130 I_w  (fun v974 w975 Iw975 tw975 lv974 uv974 => ?_)
                                            have c977 := sf_mf tw975 (p := 1) (j := 0) rfl
                                            have c978 := sf_mf tw975 (p := 71) (j := 1) rfl
                                            have c979 := sf_mf tw975 (p := 1) (j := 5) rfl
                                            have c980 := sf_mf tw975 (p := 71) (j := 5) rfl
                                            have c981 := sf_mf tw975 (p := 13) (j := 1) rfl
                                            have c982 := sf_mf tw975 (p := 71) (j := 10) rfl
                                            have c983 := sf_mf tw975 (p := 21) (j := 1) rfl
                                            have c984 := sf_mf tw975 (p := 71) (j := 18) rfl
                                            have c985 := sf_mf tw975 (p := 35) (j := 0) rfl
                                            have c986 := sf_mf tw975 (p := 71) (j := 35) rfl
                                            have c987 := sf_ma tw975 (p := 3) rfl
                                            have c988 := sf_ma tw975 (p := 72) rfl
                                            have c989 := sf_mg tw975 (p := 10) rfl
                                            have c990 := sf_ma tw975 (p := 93) rfl
                                            refine sf_istore (L' := [(0, .inl (.ref 100000)), (1, .inl (.ref 0)), (2, .inl (.ref 71)), (3, .inl (.ref 130)), (4, .inl (.int x4))]) rfl ?_
                                            refine sf_aload rfl ?_
                                            refine sf_aload rfl ?_
                                            refine sf_iload rfl ?_
                                            refine sf_iconst sf_c1 (fun z991 ez991 => ?_)
                                            refine sf_iadd (by omega) (fun v992 ev992 => ?_)
                                            refine sf_sldk (x := x4) (k := 1) (by omega) (by omega) (by omega) ?_
                                            clear ev992 ez991
                                            refine sf_aload rfl ?_
                                            refine sf_iload rfl ?_
                                            refine sf_iconst sf_c2 (fun z993 ez993 => ?_)
                                            refine sf_iadd (by omega) (fun v994 ev994 => ?_)
                                            refine sf_sldk (x := x4) (k := 2) (by omega) (by omega) (by omega) ?_
                                            clear ev994 ez993
                                            refine sf_callv3 rfl (by omega) (by omega) ?_
                                            refine sf_rv Iw975 rfl ?_
                                            refine sc_M_release Iw975  (fun v995 w996 Iw996 tw996 => ?_)
                                            have c998 := sf_mf tw996 (p := 1) (j := 0) rfl
                                            have c999 := sf_mf tw996 (p := 71) (j := 1) rfl
                                            have c1000 := sf_mf tw996 (p := 1) (j := 5) rfl
                                            have c1001 := sf_mf tw996 (p := 71) (j := 5) rfl
                                            have c1002 := sf_mf tw996 (p := 13) (j := 1) rfl
                                            have c1003 := sf_mf tw996 (p := 71) (j := 10) rfl
                                            have c1004 := sf_mf tw996 (p := 21) (j := 1) rfl
                                            have c1005 := sf_mf tw996 (p := 71) (j := 18) rfl
                                            have c1006 := sf_mf tw996 (p := 35) (j := 0) rfl
                                            have c1007 := sf_mf tw996 (p := 71) (j := 35) rfl
                                            have c1008 := sf_ma tw996 (p := 3) rfl
                                            have c1009 := sf_ma tw996 (p := 72) rfl
                                            have c1010 := sf_mg tw996 (p := 10) rfl
                                            have c1011 := sf_ma tw996 (p := 93) rfl
                                            have c1012 := sf_mL tw996 (p := 130) rfl
                                            refine sf_lstore (L' := [(5, .inl (.int v974)), (0, .inl (.ref 100000)), (1, .inl (.ref 0)), (2, .inl (.ref 71)), (3, .inl (.ref 130)), (4, .inl (.int x4))]) rfl ?_
                                            show kt_W_law_1404 N xs K _ _ _ _ _
                                            refine sf_iinc (L' := [(6, .inl (.long v995)), (5, .inl (.int v974)), (0, .inl (.ref 100000)), (1, .inl (.ref 0)), (2, .inl (.ref 71)), (3, .inl (.ref 130))]) (x := x4) sf_c8 rfl rfl (by omega) (fun v1013 ev1013 => ?_)
                                            refine sf_can (L' := [(0, .inl (.ref 100000)), (1, .inl (.ref 0)), (2, .inl (.ref 71)), (3, .inl (.ref 130)), (4, .inl (.int v1013))]) rfl ?_
                                            exact ih _ _ _ _ Iw996 (by omega) (by omega) (by omega) (by omega) (by rw [c998, c977]; rw [c999, c978]; rw [c1000, c979]; rw [c1001, c980]; rw [c1002, c981]; rw [c1003, c982]; rw [c1004, c983]; rw [c1005, c984]; rw [c1006, c985]; rw [c1007, c986]; omega) (by rw [c1008, c987]; rw [c1009, c988]; rw [c999, c978]; first | exact f_1 | exact hJ) (by rw [c1010, c989]; rw [c1011, c990]; first | exact f_2 | exact hK2) (by omega)
                                          · clear h969
                                            refine sf_sw1 sf_c19 (fun h1014 => ?_) (fun h1014 => ?_)
                                            · refine sf_aload rfl ?_
                                              refine sf_aload rfl ?_
                                              refine sf_iload rfl ?_
                                              refine sf_iconst sf_c1 (fun z1015 ez1015 => ?_)
                                              refine sf_iadd (by omega) (fun v1016 ev1016 => ?_)
                                              refine sf_sldk (x := x4) (k := 1) (by omega) (by omega) (by omega) ?_
                                              clear ev1016 ez1015
                                              refine sf_aload rfl ?_
                                              refine sf_iload rfl ?_
                                              refine sf_iconst sf_c2 (fun z1017 ez1017 => ?_)
                                              refine sf_iadd (by omega) (fun v1018 ev1018 => ?_)
                                              refine sf_sldk (x := x4) (k := 2) (by omega) (by omega) (by omega) ?_
                                              clear ev1018 ez1017
                                              refine sf_aload rfl ?_
                                              refine sf_callv4 rfl (by omega) (by omega) ?_
                                              refine sc_W_export_0_130 I_w  (fun v1019 w1020 Iw1020 tw1020 lv1019 uv1019 => ?_)
                                              have c1022 := sf_mf tw1020 (p := 1) (j := 0) rfl
                                              have c1023 := sf_mf tw1020 (p := 71) (j := 1) rfl
                                              have c1024 := sf_mf tw1020 (p := 1) (j := 5) rfl
                                              have c1025 := sf_mf tw1020 (p := 71) (j := 5) rfl
                                              have c1026 := sf_mf tw1020 (p := 13) (j := 1) rfl
                                              have c1027 := sf_mf tw1020 (p := 71) (j := 10) rfl
                                              have c1028 := sf_mf tw1020 (p := 21) (j := 1) rfl
                                              have c1029 := sf_mf tw1020 (p := 71) (j := 18) rfl
                                              have c1030 := sf_mf tw1020 (p := 35) (j := 0) rfl
                                              have c1031 := sf_mf tw1020 (p := 71) (j := 35) rfl
                                              have c1032 := sf_ma tw1020 (p := 3) rfl
                                              have c1033 := sf_ma tw1020 (p := 72) rfl
                                              have c1034 := sf_mg tw1020 (p := 10) rfl
                                              have c1035 := sf_ma tw1020 (p := 93) rfl
                                              refine sf_istore (L' := [(0, .inl (.ref 100000)), (1, .inl (.ref 0)), (2, .inl (.ref 71)), (3, .inl (.ref 130)), (4, .inl (.int x4))]) rfl ?_
                                              refine sf_aload rfl ?_
                                              refine sf_aload rfl ?_
                                              refine sf_iload rfl ?_
                                              refine sf_iconst sf_c1 (fun z1036 ez1036 => ?_)
                                              refine sf_iadd (by omega) (fun v1037 ev1037 => ?_)
                                              refine sf_sldk (x := x4) (k := 1) (by omega) (by omega) (by omega) ?_
                                              clear ev1037 ez1036
                                              refine sf_aload rfl ?_
                                              refine sf_iload rfl ?_
                                              refine sf_iconst sf_c2 (fun z1038 ez1038 => ?_)
                                              refine sf_iadd (by omega) (fun v1039 ev1039 => ?_)
                                              refine sf_sldk (x := x4) (k := 2) (by omega) (by omega) (by omega) ?_
                                              clear ev1039 ez1038
                                              refine sf_callv3 rfl (by omega) (by omega) ?_
                                              refine sf_rv Iw1020 rfl ?_
                                              refine sc_M_export Iw1020  (fun v1040 w1041 Iw1041 tw1041 => ?_)
                                              have c1043 := sf_mf tw1041 (p := 1) (j := 0) rfl
                                              have c1044 := sf_mf tw1041 (p := 71) (j := 1) rfl
                                              have c1045 := sf_mf tw1041 (p := 1) (j := 5) rfl
                                              have c1046 := sf_mf tw1041 (p := 71) (j := 5) rfl
                                              have c1047 := sf_mf tw1041 (p := 13) (j := 1) rfl
                                              have c1048 := sf_mf tw1041 (p := 71) (j := 10) rfl
                                              have c1049 := sf_mf tw1041 (p := 21) (j := 1) rfl
                                              have c1050 := sf_mf tw1041 (p := 71) (j := 18) rfl
                                              have c1051 := sf_mf tw1041 (p := 35) (j := 0) rfl
                                              have c1052 := sf_mf tw1041 (p := 71) (j := 35) rfl
                                              have c1053 := sf_ma tw1041 (p := 3) rfl
                                              have c1054 := sf_ma tw1041 (p := 72) rfl
                                              have c1055 := sf_mg tw1041 (p := 10) rfl
                                              have c1056 := sf_ma tw1041 (p := 93) rfl
                                              have c1057 := sf_mL tw1041 (p := 130) rfl
                                              refine sf_lstore (L' := [(5, .inl (.int v1019)), (0, .inl (.ref 100000)), (1, .inl (.ref 0)), (2, .inl (.ref 71)), (3, .inl (.ref 130)), (4, .inl (.int x4))]) rfl ?_
                                              show kt_W_law_1404 N xs K _ _ _ _ _
                                              refine sf_iinc (L' := [(6, .inl (.long v1040)), (5, .inl (.int v1019)), (0, .inl (.ref 100000)), (1, .inl (.ref 0)), (2, .inl (.ref 71)), (3, .inl (.ref 130))]) (x := x4) sf_c8 rfl rfl (by omega) (fun v1058 ev1058 => ?_)
                                              refine sf_can (L' := [(0, .inl (.ref 100000)), (1, .inl (.ref 0)), (2, .inl (.ref 71)), (3, .inl (.ref 130)), (4, .inl (.int v1058))]) rfl ?_
                                              exact ih _ _ _ _ Iw1041 (by omega) (by omega) (by omega) (by omega) (by rw [c1043, c1022]; rw [c1044, c1023]; rw [c1045, c1024]; rw [c1046, c1025]; rw [c1047, c1026]; rw [c1048, c1027]; rw [c1049, c1028]; rw [c1050, c1029]; rw [c1051, c1030]; rw [c1052, c1031]; omega) (by rw [c1053, c1032]; rw [c1054, c1033]; rw [c1044, c1023]; first | exact f_1 | exact hJ) (by rw [c1055, c1034]; rw [c1056, c1035]; first | exact f_2 | exact hK2) (by omega)
                                            · clear h1014
                                              refine sf_sw1 sf_c20 (fun h1059 => ?_) (fun h1059 => ?_)
                                              · refine sf_aload rfl ?_
                                                refine sf_aload rfl ?_
                                                refine sf_iload rfl ?_
                                                refine sf_iconst sf_c1 (fun z1060 ez1060 => ?_)
                                                refine sf_iadd (by omega) (fun v1061 ev1061 => ?_)
                                                refine sf_sldk (x := x4) (k := 1) (by omega) (by omega) (by omega) ?_
                                                clear ev1061 ez1060
                                                refine sf_aload rfl ?_
                                                refine sf_iload rfl ?_
                                                refine sf_iconst sf_c2 (fun z1062 ez1062 => ?_)
                                                refine sf_iadd (by omega) (fun v1063 ev1063 => ?_)
                                                refine sf_sldk (x := x4) (k := 2) (by omega) (by omega) (by omega) ?_
                                                clear ev1063 ez1062
                                                refine sf_aload rfl ?_
                                                refine sf_iload rfl ?_
                                                refine sf_iconst sf_c3 (fun z1064 ez1064 => ?_)
                                                refine sf_iadd (by omega) (fun v1065 ev1065 => ?_)
                                                refine sf_sldk (x := x4) (k := 3) (by omega) (by omega) (by omega) ?_
                                                clear ev1065 ez1064
                                                refine sf_aload rfl ?_
                                                refine sf_iload rfl ?_
                                                refine sf_iconst sf_c4 (fun z1066 ez1066 => ?_)
                                                refine sf_iadd (by omega) (fun v1067 ev1067 => ?_)
                                                refine sf_sldk (x := x4) (k := 4) (by omega) (by omega) (by omega) ?_
                                                clear ev1067 ez1066
                                                refine sf_aload rfl ?_
                                                refine sf_callv6 rfl (by omega) (by omega) ?_
                                                refine sc_W_work_0_130 I_w  (fun v1068 w1069 Iw1069 tw1069 lv1068 uv1068 => ?_)
                                                have c1071 := sf_mf tw1069 (p := 1) (j := 0) rfl
                                                have c1072 := sf_mf tw1069 (p := 71) (j := 1) rfl
                                                have c1073 := sf_mf tw1069 (p := 1) (j := 5) rfl
                                                have c1074 := sf_mf tw1069 (p := 71) (j := 5) rfl
                                                have c1075 := sf_mf tw1069 (p := 13) (j := 1) rfl
                                                have c1076 := sf_mf tw1069 (p := 71) (j := 10) rfl
                                                have c1077 := sf_mf tw1069 (p := 21) (j := 1) rfl
                                                have c1078 := sf_mf tw1069 (p := 71) (j := 18) rfl
                                                have c1079 := sf_mf tw1069 (p := 35) (j := 0) rfl
                                                have c1080 := sf_mf tw1069 (p := 71) (j := 35) rfl
                                                have c1081 := sf_ma tw1069 (p := 3) rfl
                                                have c1082 := sf_ma tw1069 (p := 72) rfl
                                                have c1083 := sf_mg tw1069 (p := 10) rfl
                                                have c1084 := sf_ma tw1069 (p := 93) rfl
                                                refine sf_istore (L' := [(0, .inl (.ref 100000)), (1, .inl (.ref 0)), (2, .inl (.ref 71)), (3, .inl (.ref 130)), (4, .inl (.int x4))]) rfl ?_
                                                refine sf_aload rfl ?_
                                                refine sf_aload rfl ?_
                                                refine sf_iload rfl ?_
                                                refine sf_iconst sf_c1 (fun z1085 ez1085 => ?_)
                                                refine sf_iadd (by omega) (fun v1086 ev1086 => ?_)
                                                refine sf_sldk (x := x4) (k := 1) (by omega) (by omega) (by omega) ?_
                                                clear ev1086 ez1085
                                                refine sf_aload rfl ?_
                                                refine sf_iload rfl ?_
                                                refine sf_iconst sf_c2 (fun z1087 ez1087 => ?_)
                                                refine sf_iadd (by omega) (fun v1088 ev1088 => ?_)
                                                refine sf_sldk (x := x4) (k := 2) (by omega) (by omega) (by omega) ?_
                                                clear ev1088 ez1087
                                                refine sf_aload rfl ?_
                                                refine sf_iload rfl ?_
                                                refine sf_iconst sf_c3 (fun z1089 ez1089 => ?_)
                                                refine sf_iadd (by omega) (fun v1090 ev1090 => ?_)
                                                refine sf_sldk (x := x4) (k := 3) (by omega) (by omega) (by omega) ?_
                                                clear ev1090 ez1089
                                                refine sf_aload rfl ?_
                                                refine sf_iload rfl ?_
                                                refine sf_iconst sf_c4 (fun z1091 ez1091 => ?_)
                                                refine sf_iadd (by omega) (fun v1092 ev1092 => ?_)
                                                refine sf_sldk (x := x4) (k := 4) (by omega) (by omega) (by omega) ?_
                                                clear ev1092 ez1091
                                                refine sf_callv5 rfl (by omega) (by omega) ?_
                                                refine sf_rv Iw1069 rfl ?_
                                                refine sc_M_work Iw1069  (fun v1093 w1094 Iw1094 tw1094 lv1093 uv1093 => ?_)
                                                have c1096 := sf_mf tw1094 (p := 1) (j := 0) rfl
                                                have c1097 := sf_mf tw1094 (p := 71) (j := 1) rfl
                                                have c1098 := sf_mf tw1094 (p := 1) (j := 5) rfl
                                                have c1099 := sf_mf tw1094 (p := 71) (j := 5) rfl
                                                have c1100 := sf_mf tw1094 (p := 13) (j := 1) rfl
                                                have c1101 := sf_mf tw1094 (p := 71) (j := 10) rfl
                                                have c1102 := sf_mf tw1094 (p := 21) (j := 1) rfl
                                                have c1103 := sf_mf tw1094 (p := 71) (j := 18) rfl
                                                have c1104 := sf_mf tw1094 (p := 35) (j := 0) rfl
                                                have c1105 := sf_mf tw1094 (p := 71) (j := 35) rfl
                                                have c1106 := sf_ma tw1094 (p := 3) rfl
                                                have c1107 := sf_ma tw1094 (p := 72) rfl
                                                have c1108 := sf_mg tw1094 (p := 10) rfl
                                                have c1109 := sf_ma tw1094 (p := 93) rfl
                                                have c1110 := sf_mL tw1094 (p := 130) rfl
                                                refine sf_istore (L' := [(5, .inl (.int v1068)), (0, .inl (.ref 100000)), (1, .inl (.ref 0)), (2, .inl (.ref 71)), (3, .inl (.ref 130)), (4, .inl (.int x4))]) rfl ?_
                                                show kt_W_law_1404 N xs K _ _ _ _ _
                                                refine sf_iinc (L' := [(6, .inl (.int v1093)), (5, .inl (.int v1068)), (0, .inl (.ref 100000)), (1, .inl (.ref 0)), (2, .inl (.ref 71)), (3, .inl (.ref 130))]) (x := x4) sf_c8 rfl rfl (by omega) (fun v1111 ev1111 => ?_)
                                                refine sf_can (L' := [(0, .inl (.ref 100000)), (1, .inl (.ref 0)), (2, .inl (.ref 71)), (3, .inl (.ref 130)), (4, .inl (.int v1111))]) rfl ?_
                                                exact ih _ _ _ _ Iw1094 (by omega) (by omega) (by omega) (by omega) (by rw [c1096, c1071]; rw [c1097, c1072]; rw [c1098, c1073]; rw [c1099, c1074]; rw [c1100, c1075]; rw [c1101, c1076]; rw [c1102, c1077]; rw [c1103, c1078]; rw [c1104, c1079]; rw [c1105, c1080]; omega) (by rw [c1106, c1081]; rw [c1107, c1082]; rw [c1097, c1072]; first | exact f_1 | exact hJ) (by rw [c1108, c1083]; rw [c1109, c1084]; first | exact f_2 | exact hK2) (by omega)
                                              · clear h1059
                                                refine sf_sw1 sf_c21 (fun h1112 => ?_) (fun h1112 => ?_)
                                                · refine sf_aload rfl ?_
                                                  refine sf_aload rfl ?_
                                                  refine sf_iload rfl ?_
                                                  refine sf_iconst sf_c1 (fun z1113 ez1113 => ?_)
                                                  refine sf_iadd (by omega) (fun v1114 ev1114 => ?_)
                                                  refine sf_sldk (x := x4) (k := 1) (by omega) (by omega) (by omega) ?_
                                                  clear ev1114 ez1113
                                                  refine sf_aload rfl ?_
                                                  refine sf_iload rfl ?_
                                                  refine sf_iconst sf_c2 (fun z1115 ez1115 => ?_)
                                                  refine sf_iadd (by omega) (fun v1116 ev1116 => ?_)
                                                  refine sf_sldk (x := x4) (k := 2) (by omega) (by omega) (by omega) ?_
                                                  clear ev1116 ez1115
                                                  refine sf_aload rfl ?_
                                                  refine sf_callv4 rfl (by omega) (by omega) ?_
                                                  refine sc_W_lot_0_130 I_w  (fun v1117 w1118 Iw1118 tw1118 lv1117 uv1117 => ?_)
                                                  have c1120 := sf_mf tw1118 (p := 1) (j := 0) rfl
                                                  have c1121 := sf_mf tw1118 (p := 71) (j := 1) rfl
                                                  have c1122 := sf_mf tw1118 (p := 1) (j := 5) rfl
                                                  have c1123 := sf_mf tw1118 (p := 71) (j := 5) rfl
                                                  have c1124 := sf_mf tw1118 (p := 13) (j := 1) rfl
                                                  have c1125 := sf_mf tw1118 (p := 71) (j := 10) rfl
                                                  have c1126 := sf_mf tw1118 (p := 21) (j := 1) rfl
                                                  have c1127 := sf_mf tw1118 (p := 71) (j := 18) rfl
                                                  have c1128 := sf_mf tw1118 (p := 35) (j := 0) rfl
                                                  have c1129 := sf_mf tw1118 (p := 71) (j := 35) rfl
                                                  have c1130 := sf_ma tw1118 (p := 3) rfl
                                                  have c1131 := sf_ma tw1118 (p := 72) rfl
                                                  have c1132 := sf_mg tw1118 (p := 10) rfl
                                                  have c1133 := sf_ma tw1118 (p := 93) rfl
                                                  refine sf_istore (L' := [(0, .inl (.ref 100000)), (1, .inl (.ref 0)), (2, .inl (.ref 71)), (3, .inl (.ref 130)), (4, .inl (.int x4))]) rfl ?_
                                                  refine sf_aload rfl ?_
                                                  refine sf_aload rfl ?_
                                                  refine sf_iload rfl ?_
                                                  refine sf_iconst sf_c1 (fun z1134 ez1134 => ?_)
                                                  refine sf_iadd (by omega) (fun v1135 ev1135 => ?_)
                                                  refine sf_sldk (x := x4) (k := 1) (by omega) (by omega) (by omega) ?_
                                                  clear ev1135 ez1134
                                                  refine sf_aload rfl ?_
                                                  refine sf_iload rfl ?_
                                                  refine sf_iconst sf_c2 (fun z1136 ez1136 => ?_)
                                                  refine sf_iadd (by omega) (fun v1137 ev1137 => ?_)
                                                  refine sf_sldk (x := x4) (k := 2) (by omega) (by omega) (by omega) ?_
                                                  clear ev1137 ez1136
                                                  refine sf_callv3 rfl (by omega) (by omega) ?_
                                                  refine sf_rv Iw1118 rfl ?_
                                                  refine sc_M_lot Iw1118  (fun v1138 w1139 Iw1139 tw1139 => ?_)
                                                  have c1141 := sf_mf tw1139 (p := 1) (j := 0) rfl
                                                  have c1142 := sf_mf tw1139 (p := 71) (j := 1) rfl
                                                  have c1143 := sf_mf tw1139 (p := 1) (j := 5) rfl
                                                  have c1144 := sf_mf tw1139 (p := 71) (j := 5) rfl
                                                  have c1145 := sf_mf tw1139 (p := 13) (j := 1) rfl
                                                  have c1146 := sf_mf tw1139 (p := 71) (j := 10) rfl
                                                  have c1147 := sf_mf tw1139 (p := 21) (j := 1) rfl
                                                  have c1148 := sf_mf tw1139 (p := 71) (j := 18) rfl
                                                  have c1149 := sf_mf tw1139 (p := 35) (j := 0) rfl
                                                  have c1150 := sf_mf tw1139 (p := 71) (j := 35) rfl
                                                  have c1151 := sf_ma tw1139 (p := 3) rfl
                                                  have c1152 := sf_ma tw1139 (p := 72) rfl
                                                  have c1153 := sf_mg tw1139 (p := 10) rfl
                                                  have c1154 := sf_ma tw1139 (p := 93) rfl
                                                  have c1155 := sf_mL tw1139 (p := 130) rfl
                                                  refine sf_lstore (L' := [(5, .inl (.int v1117)), (0, .inl (.ref 100000)), (1, .inl (.ref 0)), (2, .inl (.ref 71)), (3, .inl (.ref 130)), (4, .inl (.int x4))]) rfl ?_
                                                  show kt_W_law_1404 N xs K _ _ _ _ _
                                                  refine sf_iinc (L' := [(6, .inl (.long v1138)), (5, .inl (.int v1117)), (0, .inl (.ref 100000)), (1, .inl (.ref 0)), (2, .inl (.ref 71)), (3, .inl (.ref 130))]) (x := x4) sf_c8 rfl rfl (by omega) (fun v1156 ev1156 => ?_)
                                                  refine sf_can (L' := [(0, .inl (.ref 100000)), (1, .inl (.ref 0)), (2, .inl (.ref 71)), (3, .inl (.ref 130)), (4, .inl (.int v1156))]) rfl ?_
                                                  exact ih _ _ _ _ Iw1139 (by omega) (by omega) (by omega) (by omega) (by rw [c1141, c1120]; rw [c1142, c1121]; rw [c1143, c1122]; rw [c1144, c1123]; rw [c1145, c1124]; rw [c1146, c1125]; rw [c1147, c1126]; rw [c1148, c1127]; rw [c1149, c1128]; rw [c1150, c1129]; omega) (by rw [c1151, c1130]; rw [c1152, c1131]; rw [c1142, c1121]; first | exact f_1 | exact hJ) (by rw [c1153, c1132]; rw [c1154, c1133]; first | exact f_2 | exact hK2) (by omega)
                                                · clear h1112
                                                  refine sf_sw1 sf_c22 (fun h1157 => ?_) (fun h1157 => ?_)
                                                  · refine sf_aload rfl ?_
                                                    refine sf_aload rfl ?_
                                                    refine sf_iload rfl ?_
                                                    refine sf_iconst sf_c1 (fun z1158 ez1158 => ?_)
                                                    refine sf_iadd (by omega) (fun v1159 ev1159 => ?_)
                                                    refine sf_sldk (x := x4) (k := 1) (by omega) (by omega) (by omega) ?_
                                                    clear ev1159 ez1158
                                                    refine sf_aload rfl ?_
                                                    refine sf_iload rfl ?_
                                                    refine sf_iconst sf_c2 (fun z1160 ez1160 => ?_)
                                                    refine sf_iadd (by omega) (fun v1161 ev1161 => ?_)
                                                    refine sf_sldk (x := x4) (k := 2) (by omega) (by omega) (by omega) ?_
                                                    clear ev1161 ez1160
                                                    refine sf_aload rfl ?_
                                                    refine sf_callv4 rfl (by omega) (by omega) ?_
                                                    refine sc_W_account_0_130 I_w  (fun v1162 w1163 Iw1163 tw1163 lv1162 uv1162 => ?_)
                                                    have c1165 := sf_mf tw1163 (p := 1) (j := 0) rfl
                                                    have c1166 := sf_mf tw1163 (p := 71) (j := 1) rfl
                                                    have c1167 := sf_mf tw1163 (p := 1) (j := 5) rfl
                                                    have c1168 := sf_mf tw1163 (p := 71) (j := 5) rfl
                                                    have c1169 := sf_mf tw1163 (p := 13) (j := 1) rfl
                                                    have c1170 := sf_mf tw1163 (p := 71) (j := 10) rfl
                                                    have c1171 := sf_mf tw1163 (p := 21) (j := 1) rfl
                                                    have c1172 := sf_mf tw1163 (p := 71) (j := 18) rfl
                                                    have c1173 := sf_mf tw1163 (p := 35) (j := 0) rfl
                                                    have c1174 := sf_mf tw1163 (p := 71) (j := 35) rfl
                                                    have c1175 := sf_ma tw1163 (p := 3) rfl
                                                    have c1176 := sf_ma tw1163 (p := 72) rfl
                                                    have c1177 := sf_mg tw1163 (p := 10) rfl
                                                    have c1178 := sf_ma tw1163 (p := 93) rfl
                                                    refine sf_istore (L' := [(0, .inl (.ref 100000)), (1, .inl (.ref 0)), (2, .inl (.ref 71)), (3, .inl (.ref 130)), (4, .inl (.int x4))]) rfl ?_
                                                    refine sf_aload rfl ?_
                                                    refine sf_aload rfl ?_
                                                    refine sf_iload rfl ?_
                                                    refine sf_iconst sf_c1 (fun z1179 ez1179 => ?_)
                                                    refine sf_iadd (by omega) (fun v1180 ev1180 => ?_)
                                                    refine sf_sldk (x := x4) (k := 1) (by omega) (by omega) (by omega) ?_
                                                    clear ev1180 ez1179
                                                    refine sf_aload rfl ?_
                                                    refine sf_iload rfl ?_
                                                    refine sf_iconst sf_c2 (fun z1181 ez1181 => ?_)
                                                    refine sf_iadd (by omega) (fun v1182 ev1182 => ?_)
                                                    refine sf_sldk (x := x4) (k := 2) (by omega) (by omega) (by omega) ?_
                                                    clear ev1182 ez1181
                                                    refine sf_callv3 rfl (by omega) (by omega) ?_
                                                    refine sf_rv Iw1163 rfl ?_
                                                    refine sc_M_account Iw1163  (fun v1183 w1184 Iw1184 tw1184 => ?_)
                                                    have c1186 := sf_mf tw1184 (p := 1) (j := 0) rfl
                                                    have c1187 := sf_mf tw1184 (p := 71) (j := 1) rfl
                                                    have c1188 := sf_mf tw1184 (p := 1) (j := 5) rfl
                                                    have c1189 := sf_mf tw1184 (p := 71) (j := 5) rfl
                                                    have c1190 := sf_mf tw1184 (p := 13) (j := 1) rfl
                                                    have c1191 := sf_mf tw1184 (p := 71) (j := 10) rfl
                                                    have c1192 := sf_mf tw1184 (p := 21) (j := 1) rfl
                                                    have c1193 := sf_mf tw1184 (p := 71) (j := 18) rfl
                                                    have c1194 := sf_mf tw1184 (p := 35) (j := 0) rfl
                                                    have c1195 := sf_mf tw1184 (p := 71) (j := 35) rfl
                                                    have c1196 := sf_ma tw1184 (p := 3) rfl
                                                    have c1197 := sf_ma tw1184 (p := 72) rfl
                                                    have c1198 := sf_mg tw1184 (p := 10) rfl
                                                    have c1199 := sf_ma tw1184 (p := 93) rfl
                                                    have c1200 := sf_mL tw1184 (p := 130) rfl
                                                    refine sf_lstore (L' := [(5, .inl (.int v1162)), (0, .inl (.ref 100000)), (1, .inl (.ref 0)), (2, .inl (.ref 71)), (3, .inl (.ref 130)), (4, .inl (.int x4))]) rfl ?_
                                                    show kt_W_law_1404 N xs K _ _ _ _ _
                                                    refine sf_iinc (L' := [(6, .inl (.long v1183)), (5, .inl (.int v1162)), (0, .inl (.ref 100000)), (1, .inl (.ref 0)), (2, .inl (.ref 71)), (3, .inl (.ref 130))]) (x := x4) sf_c8 rfl rfl (by omega) (fun v1201 ev1201 => ?_)
                                                    refine sf_can (L' := [(0, .inl (.ref 100000)), (1, .inl (.ref 0)), (2, .inl (.ref 71)), (3, .inl (.ref 130)), (4, .inl (.int v1201))]) rfl ?_
                                                    exact ih _ _ _ _ Iw1184 (by omega) (by omega) (by omega) (by omega) (by rw [c1186, c1165]; rw [c1187, c1166]; rw [c1188, c1167]; rw [c1189, c1168]; rw [c1190, c1169]; rw [c1191, c1170]; rw [c1192, c1171]; rw [c1193, c1172]; rw [c1194, c1173]; rw [c1195, c1174]; omega) (by rw [c1196, c1175]; rw [c1197, c1176]; rw [c1187, c1166]; first | exact f_1 | exact hJ) (by rw [c1198, c1177]; rw [c1199, c1178]; first | exact f_2 | exact hK2) (by omega)
                                                  · clear h1157
                                                    refine sf_sw1 sf_c23 (fun h1202 => ?_) (fun h1202 => ?_)
                                                    · refine sf_aload rfl ?_
                                                      refine sf_aload rfl ?_
                                                      refine sf_iload rfl ?_
                                                      refine sf_iconst sf_c1 (fun z1203 ez1203 => ?_)
                                                      refine sf_iadd (by omega) (fun v1204 ev1204 => ?_)
                                                      refine sf_sldk (x := x4) (k := 1) (by omega) (by omega) (by omega) ?_
                                                      clear ev1204 ez1203
                                                      refine sf_aload rfl ?_
                                                      refine sf_callv3 rfl (by omega) (by omega) ?_
                                                      refine sc_W_books_0_130 I_w  (fun v1205 w1206 Iw1206 tw1206 lv1205 uv1205 => ?_)
                                                      have c1208 := sf_mf tw1206 (p := 1) (j := 0) rfl
                                                      have c1209 := sf_mf tw1206 (p := 71) (j := 1) rfl
                                                      have c1210 := sf_mf tw1206 (p := 1) (j := 5) rfl
                                                      have c1211 := sf_mf tw1206 (p := 71) (j := 5) rfl
                                                      have c1212 := sf_mf tw1206 (p := 13) (j := 1) rfl
                                                      have c1213 := sf_mf tw1206 (p := 71) (j := 10) rfl
                                                      have c1214 := sf_mf tw1206 (p := 21) (j := 1) rfl
                                                      have c1215 := sf_mf tw1206 (p := 71) (j := 18) rfl
                                                      have c1216 := sf_mf tw1206 (p := 35) (j := 0) rfl
                                                      have c1217 := sf_mf tw1206 (p := 71) (j := 35) rfl
                                                      have c1218 := sf_ma tw1206 (p := 3) rfl
                                                      have c1219 := sf_ma tw1206 (p := 72) rfl
                                                      have c1220 := sf_mg tw1206 (p := 10) rfl
                                                      have c1221 := sf_ma tw1206 (p := 93) rfl
                                                      refine sf_istore (L' := [(0, .inl (.ref 100000)), (1, .inl (.ref 0)), (2, .inl (.ref 71)), (3, .inl (.ref 130)), (4, .inl (.int x4))]) rfl ?_
                                                      refine sf_aload rfl ?_
                                                      refine sf_aload rfl ?_
                                                      refine sf_iload rfl ?_
                                                      refine sf_iconst sf_c1 (fun z1222 ez1222 => ?_)
                                                      refine sf_iadd (by omega) (fun v1223 ev1223 => ?_)
                                                      refine sf_sldk (x := x4) (k := 1) (by omega) (by omega) (by omega) ?_
                                                      clear ev1223 ez1222
                                                      refine sf_callv2 rfl (by omega) (by omega) ?_
                                                      refine sf_rv Iw1206 rfl ?_
                                                      refine sc_M_books Iw1206  (fun v1224 w1225 Iw1225 tw1225 => ?_)
                                                      have c1227 := sf_mf tw1225 (p := 1) (j := 0) rfl
                                                      have c1228 := sf_mf tw1225 (p := 71) (j := 1) rfl
                                                      have c1229 := sf_mf tw1225 (p := 1) (j := 5) rfl
                                                      have c1230 := sf_mf tw1225 (p := 71) (j := 5) rfl
                                                      have c1231 := sf_mf tw1225 (p := 13) (j := 1) rfl
                                                      have c1232 := sf_mf tw1225 (p := 71) (j := 10) rfl
                                                      have c1233 := sf_mf tw1225 (p := 21) (j := 1) rfl
                                                      have c1234 := sf_mf tw1225 (p := 71) (j := 18) rfl
                                                      have c1235 := sf_mf tw1225 (p := 35) (j := 0) rfl
                                                      have c1236 := sf_mf tw1225 (p := 71) (j := 35) rfl
                                                      have c1237 := sf_ma tw1225 (p := 3) rfl
                                                      have c1238 := sf_ma tw1225 (p := 72) rfl
                                                      have c1239 := sf_mg tw1225 (p := 10) rfl
                                                      have c1240 := sf_ma tw1225 (p := 93) rfl
                                                      have c1241 := sf_mL tw1225 (p := 130) rfl
                                                      refine sf_lstore (L' := [(5, .inl (.int v1205)), (0, .inl (.ref 100000)), (1, .inl (.ref 0)), (2, .inl (.ref 71)), (3, .inl (.ref 130)), (4, .inl (.int x4))]) rfl ?_
                                                      show kt_W_law_1404 N xs K _ _ _ _ _
                                                      refine sf_iinc (L' := [(6, .inl (.long v1224)), (5, .inl (.int v1205)), (0, .inl (.ref 100000)), (1, .inl (.ref 0)), (2, .inl (.ref 71)), (3, .inl (.ref 130))]) (x := x4) sf_c8 rfl rfl (by omega) (fun v1242 ev1242 => ?_)
                                                      refine sf_can (L' := [(0, .inl (.ref 100000)), (1, .inl (.ref 0)), (2, .inl (.ref 71)), (3, .inl (.ref 130)), (4, .inl (.int v1242))]) rfl ?_
                                                      exact ih _ _ _ _ Iw1225 (by omega) (by omega) (by omega) (by omega) (by rw [c1227, c1208]; rw [c1228, c1209]; rw [c1229, c1210]; rw [c1230, c1211]; rw [c1231, c1212]; rw [c1232, c1213]; rw [c1233, c1214]; rw [c1234, c1215]; rw [c1235, c1216]; rw [c1236, c1217]; omega) (by rw [c1237, c1218]; rw [c1238, c1219]; rw [c1228, c1209]; first | exact f_1 | exact hJ) (by rw [c1239, c1220]; rw [c1240, c1221]; first | exact f_2 | exact hK2) (by omega)
                                                    · clear h1202
                                                      refine sf_sw0 ?_
                                                      refine sf_iinc (L' := [(0, .inl (.ref 100000)), (1, .inl (.ref 0)), (2, .inl (.ref 71)), (3, .inl (.ref 130))]) (x := x4) sf_c8 rfl rfl (by omega) (fun v1243 ev1243 => ?_)
                                                      refine sf_can (L' := [(0, .inl (.ref 100000)), (1, .inl (.ref 0)), (2, .inl (.ref 71)), (3, .inl (.ref 130)), (4, .inl (.int v1243))]) rfl ?_
                                                      exact ih _ _ _ _ I_w (by omega) (by omega) (by omega) (by omega) (by omega) (by first | exact f_1 | exact hJ) (by first | exact f_2 | exact hK2) (by omega)
