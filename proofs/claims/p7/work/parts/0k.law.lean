set_option maxRecDepth 100000 in
set_option maxHeartbeats 40000000 in
theorem sc_law (N : Nat) (hN : N ≤ 4096) (xs : Nat → Int32) : ∀ n : Nat, ∀ (w : wq_W) (x4 : Int32) (a b : Nat), sf_I w → 0 ≤ x4.toInt → x4.toInt ≤ (N : Int) → (a : Int) ≤ 207 + 100 * x4.toInt → (b : Int) ≤ 4018 + 600 * x4.toInt → ((sf_f w 1 0).toInt = (sf_f w 71 1).toInt ∧ (sf_f w 1 5).toInt = (sf_f w 71 5).toInt ∧ (sf_f w 13 1).toInt = (sf_f w 71 10).toInt ∧ (sf_f w 21 1).toInt = (sf_f w 71 18).toInt ∧ (sf_f w 35 0).toInt = (sf_f w 71 35).toInt) → (sf_J (sf_a w 3) (sf_a w 72) (sf_f w 71 1).toInt) → (sf_K (sf_g w 10) (sf_a w 93)) → (sf_Q (sf_f w 71 1).toInt (sf_a w 2) (sf_a w 72)) → (sf_Q (sf_f w 71 5).toInt (sf_a w 6) (sf_a w 75)) → (sf_Q (sf_f w 71 5).toInt (sf_a w 7) (sf_a w 76)) → (sf_Q (sf_f w 71 5).toInt (sf_a w 8) (sf_a w 77)) → (sf_Q (sf_f w 71 5).toInt (sf_a w 9) (sf_a w 78)) → (sf_Q (sf_f w 71 10).toInt (sf_a w 14) (sf_a w 79)) → (sf_Q (sf_f w 71 10).toInt (sf_a w 15) (sf_a w 80)) → (sf_Q (sf_f w 71 10).toInt (sf_a w 16) (sf_a w 81)) → (sf_Q (sf_f w 71 10).toInt (sf_a w 17) (sf_a w 82)) → (sf_Q (sf_f w 71 10).toInt (sf_a w 18) (sf_a w 83)) → (sf_Q (sf_f w 71 10).toInt (sf_a w 19) (sf_a w 84)) → (sf_Q (sf_f w 71 10).toInt (sf_a w 20) (sf_a w 85)) → (sf_Q (sf_f w 71 18).toInt (sf_a w 24) (sf_a w 86)) → (sf_Q (sf_f w 71 18).toInt (sf_a w 25) (sf_a w 87)) → (sf_Q (sf_f w 71 18).toInt (sf_a w 23) (sf_a w 88)) → (sf_Q (sf_f w 71 18).toInt (sf_a w 26) (sf_a w 89)) → (sf_Q (sf_f w 71 18).toInt (sf_a w 27) (sf_a w 90)) → (sf_Q (sf_f w 71 35).toInt (sf_a w 36) (sf_a w 102)) → (sf_Q (sf_f w 71 35).toInt (sf_a w 37) (sf_a w 103)) → (N : Int) - x4.toInt < (n : Int) → ku_W_law N xs n 23 [(0, .inl (.ref 100000)), (1, .inl (.ref 0)), (2, .inl (.ref 71)), (3, .inl (.ref 130)), (4, .inl (.int x4))] [] w a b := by
  intro n
  induction n with
  | zero => intros; omega
  | succ n ih =>
    intro w x4 a b I_w l_x4 u_x4 ha hb f_0 f_1 f_2 f_3 f_4 f_5 f_6 f_7 f_8 f_9 f_10 f_11 f_12 f_13 f_14 f_15 f_16 f_17 f_18 f_19 f_20 f_21 hm
    show kh_W_law_23 N xs (ku_W_law N xs n) [(0, .inl (.ref 100000)), (1, .inl (.ref 0)), (2, .inl (.ref 71)), (3, .inl (.ref 130)), (4, .inl (.int x4))] [] w a b
    generalize ku_W_law N xs n = K at ih ⊢
    have hs : sf_m [] w w := sf_m0
    refine sf_iload rfl ?_
    refine sf_aload rfl ?_
    refine sf_slen hN (fun z1 ez1 => ?_)
    refine sf_iconst sf_c8 (fun z2 ez2 => ?_)
    refine sf_isub (by omega) (fun v3 ev3 => ?_)
    refine sf_f2_gt (fun h4 => ?_) (fun h4 => ?_)
    · refine sf_iconst sf_c1 (fun z5 ez5 => ?_)
      exact sf_lend (by omega) (by omega) (by omega)
    · refine sf_aload rfl ?_
      refine sf_iload rfl ?_
      refine sf_sld (by omega) (fun v6 => ?_)
      refine sf_iconst sf_c31 (fun z7 ez7 => ?_)
      refine sf_iand (n := 31) (by omega) (by decide) (fun v8 lv8 uv8 => ?_)
      refine sf_sw1 sf_c0 (fun h9 => ?_) (fun h9 => ?_)
      · refine sf_aload rfl ?_
        refine sf_aload rfl ?_
        refine sf_iload rfl ?_
        refine sf_iconst sf_c1 (fun z10 ez10 => ?_)
        refine sf_iadd (by omega) (fun v11 ev11 => ?_)
        refine sf_sldk (x := x4) (k := 1) (by omega) (by omega) (by omega) ?_
        clear ev11 ez10
        refine sf_aload rfl ?_
        refine sf_callv3 rfl (by omega) (by omega) ?_
        refine sc_W_heading_0_130 I_w  (fun v12 w13 Iw13 tw13 lv12 uv12 q14_0 q14_1 q14_2 => ?_)
        have c15 := sf_mf tw13 (p := 71) (j := 1) rfl
        have c16 := sf_mf tw13 (p := 1) (j := 5) rfl
        have c17 := sf_mf tw13 (p := 71) (j := 5) rfl
        have c18 := sf_mf tw13 (p := 13) (j := 1) rfl
        have c19 := sf_mf tw13 (p := 71) (j := 10) rfl
        have c20 := sf_mf tw13 (p := 21) (j := 1) rfl
        have c21 := sf_mf tw13 (p := 71) (j := 18) rfl
        have c22 := sf_mf tw13 (p := 35) (j := 0) rfl
        have c23 := sf_mf tw13 (p := 71) (j := 35) rfl
        have c24 := sf_ma tw13 (p := 72) rfl
        have c25 := sf_mg tw13 (p := 10) rfl
        have c26 := sf_ma tw13 (p := 93) rfl
        have c27 := sf_ma tw13 (p := 6) rfl
        have c28 := sf_ma tw13 (p := 75) rfl
        have c29 := sf_ma tw13 (p := 7) rfl
        have c30 := sf_ma tw13 (p := 76) rfl
        have c31 := sf_ma tw13 (p := 8) rfl
        have c32 := sf_ma tw13 (p := 77) rfl
        have c33 := sf_ma tw13 (p := 9) rfl
        have c34 := sf_ma tw13 (p := 78) rfl
        have c35 := sf_ma tw13 (p := 14) rfl
        have c36 := sf_ma tw13 (p := 79) rfl
        have c37 := sf_ma tw13 (p := 15) rfl
        have c38 := sf_ma tw13 (p := 80) rfl
        have c39 := sf_ma tw13 (p := 16) rfl
        have c40 := sf_ma tw13 (p := 81) rfl
        have c41 := sf_ma tw13 (p := 17) rfl
        have c42 := sf_ma tw13 (p := 82) rfl
        have c43 := sf_ma tw13 (p := 18) rfl
        have c44 := sf_ma tw13 (p := 83) rfl
        have c45 := sf_ma tw13 (p := 19) rfl
        have c46 := sf_ma tw13 (p := 84) rfl
        have c47 := sf_ma tw13 (p := 20) rfl
        have c48 := sf_ma tw13 (p := 85) rfl
        have c49 := sf_ma tw13 (p := 24) rfl
        have c50 := sf_ma tw13 (p := 86) rfl
        have c51 := sf_ma tw13 (p := 25) rfl
        have c52 := sf_ma tw13 (p := 87) rfl
        have c53 := sf_ma tw13 (p := 23) rfl
        have c54 := sf_ma tw13 (p := 88) rfl
        have c55 := sf_ma tw13 (p := 26) rfl
        have c56 := sf_ma tw13 (p := 89) rfl
        have c57 := sf_ma tw13 (p := 27) rfl
        have c58 := sf_ma tw13 (p := 90) rfl
        have c59 := sf_ma tw13 (p := 36) rfl
        have c60 := sf_ma tw13 (p := 102) rfl
        have c61 := sf_ma tw13 (p := 37) rfl
        have c62 := sf_ma tw13 (p := 103) rfl
        have U2 := q14_2
        clear q14_2
        have F1 := q14_0
        have F2 := q14_1
        clear q14_0 q14_1
        have hHD : (sf_f w 1 0).toInt = (sf_f w 71 1).toInt := by omega
        rw [hHD] at F2
        refine sf_istore (L' := [(0, .inl (.ref 100000)), (1, .inl (.ref 0)), (2, .inl (.ref 71)), (3, .inl (.ref 130)), (4, .inl (.int x4))]) rfl ?_
        refine sf_aload rfl ?_
        refine sf_aload rfl ?_
        refine sf_iload rfl ?_
        refine sf_iconst sf_c1 (fun z63 ez63 => ?_)
        refine sf_iadd (by omega) (fun v64 ev64 => ?_)
        refine sf_sldk (x := x4) (k := 1) (by omega) (by omega) (by omega) ?_
        clear ev64 ez63
        refine sf_callv2 rfl (by omega) (by omega) ?_
        refine sf_rv Iw13 rfl ?_
        refine sc_M_heading Iw13 (by rw [c24]; rw [c15]; exact sf_J3 f_1 F2) (fun v65 w66 Iw66 tw66 lv65 uv65 q67_0 q67_1 q67_2 => ?_)
        rw [c15] at q67_0
        rw [c24] at q67_1
        rw [c15] at q67_1
        rw [c24] at q67_2
        rw [c15] at q67_2
        have c68 := sf_mf tw66 (p := 1) (j := 0) rfl
        have c69 := sf_mf tw66 (p := 1) (j := 5) rfl
        have c70 := sf_mf tw66 (p := 71) (j := 5) rfl
        have c71 := sf_mf tw66 (p := 13) (j := 1) rfl
        have c72 := sf_mf tw66 (p := 71) (j := 10) rfl
        have c73 := sf_mf tw66 (p := 21) (j := 1) rfl
        have c74 := sf_mf tw66 (p := 71) (j := 18) rfl
        have c75 := sf_mf tw66 (p := 35) (j := 0) rfl
        have c76 := sf_mf tw66 (p := 71) (j := 35) rfl
        have c77 := sf_ma tw66 (p := 3) rfl
        have c78 := sf_mg tw66 (p := 10) rfl
        have c79 := sf_ma tw66 (p := 93) rfl
        have c80 := sf_mL tw66 (p := 130) rfl
        have c81 := sf_ma tw66 (p := 2) rfl
        have c82 := sf_ma tw66 (p := 6) rfl
        have c83 := sf_ma tw66 (p := 75) rfl
        have c84 := sf_ma tw66 (p := 7) rfl
        have c85 := sf_ma tw66 (p := 76) rfl
        have c86 := sf_ma tw66 (p := 8) rfl
        have c87 := sf_ma tw66 (p := 77) rfl
        have c88 := sf_ma tw66 (p := 9) rfl
        have c89 := sf_ma tw66 (p := 78) rfl
        have c90 := sf_ma tw66 (p := 14) rfl
        have c91 := sf_ma tw66 (p := 79) rfl
        have c92 := sf_ma tw66 (p := 15) rfl
        have c93 := sf_ma tw66 (p := 80) rfl
        have c94 := sf_ma tw66 (p := 16) rfl
        have c95 := sf_ma tw66 (p := 81) rfl
        have c96 := sf_ma tw66 (p := 17) rfl
        have c97 := sf_ma tw66 (p := 82) rfl
        have c98 := sf_ma tw66 (p := 18) rfl
        have c99 := sf_ma tw66 (p := 83) rfl
        have c100 := sf_ma tw66 (p := 19) rfl
        have c101 := sf_ma tw66 (p := 84) rfl
        have c102 := sf_ma tw66 (p := 20) rfl
        have c103 := sf_ma tw66 (p := 85) rfl
        have c104 := sf_ma tw66 (p := 24) rfl
        have c105 := sf_ma tw66 (p := 86) rfl
        have c106 := sf_ma tw66 (p := 25) rfl
        have c107 := sf_ma tw66 (p := 87) rfl
        have c108 := sf_ma tw66 (p := 23) rfl
        have c109 := sf_ma tw66 (p := 88) rfl
        have c110 := sf_ma tw66 (p := 26) rfl
        have c111 := sf_ma tw66 (p := 89) rfl
        have c112 := sf_ma tw66 (p := 27) rfl
        have c113 := sf_ma tw66 (p := 90) rfl
        have c114 := sf_ma tw66 (p := 36) rfl
        have c115 := sf_ma tw66 (p := 102) rfl
        have c116 := sf_ma tw66 (p := 37) rfl
        have c117 := sf_ma tw66 (p := 103) rfl
        have U72 := q67_2
        clear q67_2
        have G1 := q67_0
        have G2 := q67_1
        clear q67_0 q67_1
        have h00 := sf_hd I_w
        have hd3 : 0 ≤ (xs (x4.toInt.toNat + 1)).toInt → (xs (x4.toInt.toNat + 1)).toInt < (sf_f w 71 1).toInt → (sf_a w13 3 (xs (x4.toInt.toNat + 1)).toInt.toNat).toInt = (sf_a w 3 (xs (x4.toInt.toNat + 1)).toInt.toNat).toInt := fun h1 h2 => by rw [sf_F2d F2 h1 h2]
        have hrc : v12.toInt = (sf_f w66 71 0).toInt := by omega
        have hJ := sf_JH f_1 h00 F2 G2 hrc
        have hcn : (v12.toInt = 0 ∧ (sf_f w66 71 1).toInt = (sf_f w 71 1).toInt + 1) ∨ (v12.toInt ≠ 0 ∧ (sf_f w66 71 1).toInt = (sf_f w 71 1).toInt) := by omega
        have hQ2 := sf_QH f_3 U2 U72 (by omega) hrc hcn
        refine sf_istore (L' := [(5, .inl (.int v12)), (0, .inl (.ref 100000)), (1, .inl (.ref 0)), (2, .inl (.ref 71)), (3, .inl (.ref 130)), (4, .inl (.int x4))]) rfl ?_
        show kt_W_law_1421 N xs K _ _ _ _ _
        refine sf_iinc (L' := [(6, .inl (.int v65)), (5, .inl (.int v12)), (0, .inl (.ref 100000)), (1, .inl (.ref 0)), (2, .inl (.ref 71)), (3, .inl (.ref 130))]) (x := x4) sf_c8 rfl rfl (by omega) (fun v118 ev118 => ?_)
        refine sf_can (L' := [(0, .inl (.ref 100000)), (1, .inl (.ref 0)), (2, .inl (.ref 71)), (3, .inl (.ref 130)), (4, .inl (.int v118))]) rfl ?_
        exact ih _ _ _ _ Iw66 (by omega) (by omega) (by omega) (by omega) (by rw [c68]; rw [c69, c16]; rw [c70, c17]; rw [c71, c18]; rw [c72, c19]; rw [c73, c20]; rw [c74, c21]; rw [c75, c22]; rw [c76, c23]; omega) (by rw [c77]; first | exact f_1 | exact hJ) (by rw [c78, c25]; rw [c79, c26]; first | exact f_2 | exact hK2) (by rw [c81]; first | exact f_3 | exact hQ2) (by rw [c82, c27]; rw [c83, c28]; rw [c70, c17]; first | exact f_4 | exact hQ6) (by rw [c84, c29]; rw [c85, c30]; rw [c70, c17]; first | exact f_5 | exact hQ7) (by rw [c86, c31]; rw [c87, c32]; rw [c70, c17]; first | exact f_6 | exact hQ8) (by rw [c88, c33]; rw [c89, c34]; rw [c70, c17]; first | exact f_7 | exact hQ9) (by rw [c90, c35]; rw [c91, c36]; rw [c72, c19]; first | exact f_8 | exact hQ14) (by rw [c92, c37]; rw [c93, c38]; rw [c72, c19]; first | exact f_9 | exact hQ15) (by rw [c94, c39]; rw [c95, c40]; rw [c72, c19]; first | exact f_10 | exact hQ16) (by rw [c96, c41]; rw [c97, c42]; rw [c72, c19]; first | exact f_11 | exact hQ17) (by rw [c98, c43]; rw [c99, c44]; rw [c72, c19]; first | exact f_12 | exact hQ18) (by rw [c100, c45]; rw [c101, c46]; rw [c72, c19]; first | exact f_13 | exact hQ19) (by rw [c102, c47]; rw [c103, c48]; rw [c72, c19]; first | exact f_14 | exact hQ20) (by rw [c104, c49]; rw [c105, c50]; rw [c74, c21]; first | exact f_15 | exact hQ24) (by rw [c106, c51]; rw [c107, c52]; rw [c74, c21]; first | exact f_16 | exact hQ25) (by rw [c108, c53]; rw [c109, c54]; rw [c74, c21]; first | exact f_17 | exact hQ23) (by rw [c110, c55]; rw [c111, c56]; rw [c74, c21]; first | exact f_18 | exact hQ26) (by rw [c112, c57]; rw [c113, c58]; rw [c74, c21]; first | exact f_19 | exact hQ27) (by rw [c114, c59]; rw [c115, c60]; rw [c76, c23]; first | exact f_20 | exact hQ36) (by rw [c116, c61]; rw [c117, c62]; rw [c76, c23]; first | exact f_21 | exact hQ37) (by omega)
      · clear h9
        refine sf_sw1 sf_c1 (fun h119 => ?_) (fun h119 => ?_)
        · refine sf_aload rfl ?_
          refine sf_aload rfl ?_
          refine sf_iload rfl ?_
          refine sf_iconst sf_c1 (fun z120 ez120 => ?_)
          refine sf_iadd (by omega) (fun v121 ev121 => ?_)
          refine sf_sldk (x := x4) (k := 1) (by omega) (by omega) (by omega) ?_
          clear ev121 ez120
          refine sf_aload rfl ?_
          refine sf_iload rfl ?_
          refine sf_iconst sf_c2 (fun z122 ez122 => ?_)
          refine sf_iadd (by omega) (fun v123 ev123 => ?_)
          refine sf_sldk (x := x4) (k := 2) (by omega) (by omega) (by omega) ?_
          clear ev123 ez122
          refine sf_aload rfl ?_
          refine sf_iload rfl ?_
          refine sf_iconst sf_c3 (fun z124 ez124 => ?_)
          refine sf_iadd (by omega) (fun v125 ev125 => ?_)
          refine sf_sldk (x := x4) (k := 3) (by omega) (by omega) (by omega) ?_
          clear ev125 ez124
          refine sf_aload rfl ?_
          refine sf_iload rfl ?_
          refine sf_iconst sf_c4 (fun z126 ez126 => ?_)
          refine sf_iadd (by omega) (fun v127 ev127 => ?_)
          refine sf_sldk (x := x4) (k := 4) (by omega) (by omega) (by omega) ?_
          clear ev127 ez126
          refine sf_aload rfl ?_
          refine sf_callv6 rfl (by omega) (by omega) ?_
          refine sc_W_note_0_130 I_w  (fun v128 w129 Iw129 tw129 lv128 uv128 q130_0 q130_1 q130_2 q130_3 q130_4 => ?_)
          have c131 := sf_mf tw129 (p := 1) (j := 0) rfl
          have c132 := sf_mf tw129 (p := 71) (j := 1) rfl
          have c133 := sf_mf tw129 (p := 71) (j := 5) rfl
          have c134 := sf_mf tw129 (p := 13) (j := 1) rfl
          have c135 := sf_mf tw129 (p := 71) (j := 10) rfl
          have c136 := sf_mf tw129 (p := 21) (j := 1) rfl
          have c137 := sf_mf tw129 (p := 71) (j := 18) rfl
          have c138 := sf_mf tw129 (p := 35) (j := 0) rfl
          have c139 := sf_mf tw129 (p := 71) (j := 35) rfl
          have c140 := sf_ma tw129 (p := 3) rfl
          have c141 := sf_ma tw129 (p := 72) rfl
          have c142 := sf_mg tw129 (p := 10) rfl
          have c143 := sf_ma tw129 (p := 93) rfl
          have c144 := sf_ma tw129 (p := 2) rfl
          have c145 := sf_ma tw129 (p := 75) rfl
          have c146 := sf_ma tw129 (p := 76) rfl
          have c147 := sf_ma tw129 (p := 77) rfl
          have c148 := sf_ma tw129 (p := 78) rfl
          have c149 := sf_ma tw129 (p := 14) rfl
          have c150 := sf_ma tw129 (p := 79) rfl
          have c151 := sf_ma tw129 (p := 15) rfl
          have c152 := sf_ma tw129 (p := 80) rfl
          have c153 := sf_ma tw129 (p := 16) rfl
          have c154 := sf_ma tw129 (p := 81) rfl
          have c155 := sf_ma tw129 (p := 17) rfl
          have c156 := sf_ma tw129 (p := 82) rfl
          have c157 := sf_ma tw129 (p := 18) rfl
          have c158 := sf_ma tw129 (p := 83) rfl
          have c159 := sf_ma tw129 (p := 19) rfl
          have c160 := sf_ma tw129 (p := 84) rfl
          have c161 := sf_ma tw129 (p := 20) rfl
          have c162 := sf_ma tw129 (p := 85) rfl
          have c163 := sf_ma tw129 (p := 24) rfl
          have c164 := sf_ma tw129 (p := 86) rfl
          have c165 := sf_ma tw129 (p := 25) rfl
          have c166 := sf_ma tw129 (p := 87) rfl
          have c167 := sf_ma tw129 (p := 23) rfl
          have c168 := sf_ma tw129 (p := 88) rfl
          have c169 := sf_ma tw129 (p := 26) rfl
          have c170 := sf_ma tw129 (p := 89) rfl
          have c171 := sf_ma tw129 (p := 27) rfl
          have c172 := sf_ma tw129 (p := 90) rfl
          have c173 := sf_ma tw129 (p := 36) rfl
          have c174 := sf_ma tw129 (p := 102) rfl
          have c175 := sf_ma tw129 (p := 37) rfl
          have c176 := sf_ma tw129 (p := 103) rfl
          have U6 := q130_1
          have U7 := q130_2
          have U8 := q130_3
          have U9 := q130_4
          clear q130_1 q130_2 q130_3 q130_4
          have F1 := q130_0
          refine sf_istore (L' := [(0, .inl (.ref 100000)), (1, .inl (.ref 0)), (2, .inl (.ref 71)), (3, .inl (.ref 130)), (4, .inl (.int x4))]) rfl ?_
          refine sf_aload rfl ?_
          refine sf_aload rfl ?_
          refine sf_iload rfl ?_
          refine sf_iconst sf_c1 (fun z177 ez177 => ?_)
          refine sf_iadd (by omega) (fun v178 ev178 => ?_)
          refine sf_sldk (x := x4) (k := 1) (by omega) (by omega) (by omega) ?_
          clear ev178 ez177
          refine sf_aload rfl ?_
          refine sf_iload rfl ?_
          refine sf_iconst sf_c2 (fun z179 ez179 => ?_)
          refine sf_iadd (by omega) (fun v180 ev180 => ?_)
          refine sf_sldk (x := x4) (k := 2) (by omega) (by omega) (by omega) ?_
          clear ev180 ez179
          refine sf_aload rfl ?_
          refine sf_iload rfl ?_
          refine sf_iconst sf_c3 (fun z181 ez181 => ?_)
          refine sf_iadd (by omega) (fun v182 ev182 => ?_)
          refine sf_sldk (x := x4) (k := 3) (by omega) (by omega) (by omega) ?_
          clear ev182 ez181
          refine sf_aload rfl ?_
          refine sf_iload rfl ?_
          refine sf_iconst sf_c4 (fun z183 ez183 => ?_)
          refine sf_iadd (by omega) (fun v184 ev184 => ?_)
          refine sf_sldk (x := x4) (k := 4) (by omega) (by omega) (by omega) ?_
          clear ev184 ez183
          refine sf_callv5 rfl (by omega) (by omega) ?_
          refine sf_rv Iw129 rfl ?_
          refine sc_M_note Iw129  (fun v185 w186 Iw186 tw186 lv185 uv185 q187_0 q187_1 q187_2 q187_3 q187_4 => ?_)
          rw [c132] at q187_0
          rw [c133] at q187_0
          rw [c145] at q187_1
          rw [c133] at q187_1
          rw [c146] at q187_2
          rw [c133] at q187_2
          rw [c147] at q187_3
          rw [c133] at q187_3
          rw [c148] at q187_4
          rw [c133] at q187_4
          have c188 := sf_mf tw186 (p := 1) (j := 0) rfl
          have c189 := sf_mf tw186 (p := 71) (j := 1) rfl
          have c190 := sf_mf tw186 (p := 1) (j := 5) rfl
          have c191 := sf_mf tw186 (p := 13) (j := 1) rfl
          have c192 := sf_mf tw186 (p := 71) (j := 10) rfl
          have c193 := sf_mf tw186 (p := 21) (j := 1) rfl
          have c194 := sf_mf tw186 (p := 71) (j := 18) rfl
          have c195 := sf_mf tw186 (p := 35) (j := 0) rfl
          have c196 := sf_mf tw186 (p := 71) (j := 35) rfl
          have c197 := sf_ma tw186 (p := 3) rfl
          have c198 := sf_ma tw186 (p := 72) rfl
          have c199 := sf_mg tw186 (p := 10) rfl
          have c200 := sf_ma tw186 (p := 93) rfl
          have c201 := sf_mL tw186 (p := 130) rfl
          have c202 := sf_ma tw186 (p := 2) rfl
          have c203 := sf_ma tw186 (p := 6) rfl
          have c204 := sf_ma tw186 (p := 7) rfl
          have c205 := sf_ma tw186 (p := 8) rfl
          have c206 := sf_ma tw186 (p := 9) rfl
          have c207 := sf_ma tw186 (p := 14) rfl
          have c208 := sf_ma tw186 (p := 79) rfl
          have c209 := sf_ma tw186 (p := 15) rfl
          have c210 := sf_ma tw186 (p := 80) rfl
          have c211 := sf_ma tw186 (p := 16) rfl
          have c212 := sf_ma tw186 (p := 81) rfl
          have c213 := sf_ma tw186 (p := 17) rfl
          have c214 := sf_ma tw186 (p := 82) rfl
          have c215 := sf_ma tw186 (p := 18) rfl
          have c216 := sf_ma tw186 (p := 83) rfl
          have c217 := sf_ma tw186 (p := 19) rfl
          have c218 := sf_ma tw186 (p := 84) rfl
          have c219 := sf_ma tw186 (p := 20) rfl
          have c220 := sf_ma tw186 (p := 85) rfl
          have c221 := sf_ma tw186 (p := 24) rfl
          have c222 := sf_ma tw186 (p := 86) rfl
          have c223 := sf_ma tw186 (p := 25) rfl
          have c224 := sf_ma tw186 (p := 87) rfl
          have c225 := sf_ma tw186 (p := 23) rfl
          have c226 := sf_ma tw186 (p := 88) rfl
          have c227 := sf_ma tw186 (p := 26) rfl
          have c228 := sf_ma tw186 (p := 89) rfl
          have c229 := sf_ma tw186 (p := 27) rfl
          have c230 := sf_ma tw186 (p := 90) rfl
          have c231 := sf_ma tw186 (p := 36) rfl
          have c232 := sf_ma tw186 (p := 102) rfl
          have c233 := sf_ma tw186 (p := 37) rfl
          have c234 := sf_ma tw186 (p := 103) rfl
          have U75 := q187_1
          have U76 := q187_2
          have U77 := q187_3
          have U78 := q187_4
          clear q187_1 q187_2 q187_3 q187_4
          have G1 := q187_0
          have hrc : v128.toInt = (sf_f w186 71 0).toInt := by omega
          have hcn : (v128.toInt = 0 ∧ (sf_f w186 71 5).toInt = (sf_f w 71 5).toInt + 1) ∨ (v128.toInt ≠ 0 ∧ (sf_f w186 71 5).toInt = (sf_f w 71 5).toInt) := by omega
          have hQ6 := sf_QH f_4 U6 U75 (by omega) hrc hcn
          have hQ7 := sf_QH f_5 U7 U76 (by omega) hrc hcn
          have hQ8 := sf_QH f_6 U8 U77 (by omega) hrc hcn
          have hQ9 := sf_QH f_7 U9 U78 (by omega) hrc hcn
          refine sf_istore (L' := [(5, .inl (.int v128)), (0, .inl (.ref 100000)), (1, .inl (.ref 0)), (2, .inl (.ref 71)), (3, .inl (.ref 130)), (4, .inl (.int x4))]) rfl ?_
          show kt_W_law_1421 N xs K _ _ _ _ _
          refine sf_iinc (L' := [(6, .inl (.int v185)), (5, .inl (.int v128)), (0, .inl (.ref 100000)), (1, .inl (.ref 0)), (2, .inl (.ref 71)), (3, .inl (.ref 130))]) (x := x4) sf_c8 rfl rfl (by omega) (fun v235 ev235 => ?_)
          refine sf_can (L' := [(0, .inl (.ref 100000)), (1, .inl (.ref 0)), (2, .inl (.ref 71)), (3, .inl (.ref 130)), (4, .inl (.int v235))]) rfl ?_
          exact ih _ _ _ _ Iw186 (by omega) (by omega) (by omega) (by omega) (by rw [c188, c131]; rw [c189, c132]; rw [c190]; rw [c191, c134]; rw [c192, c135]; rw [c193, c136]; rw [c194, c137]; rw [c195, c138]; rw [c196, c139]; omega) (by rw [c197, c140]; rw [c198, c141]; rw [c189, c132]; first | exact f_1 | exact hJ) (by rw [c199, c142]; rw [c200, c143]; first | exact f_2 | exact hK2) (by rw [c202, c144]; rw [c198, c141]; rw [c189, c132]; first | exact f_3 | exact hQ2) (by rw [c203]; first | exact f_4 | exact hQ6) (by rw [c204]; first | exact f_5 | exact hQ7) (by rw [c205]; first | exact f_6 | exact hQ8) (by rw [c206]; first | exact f_7 | exact hQ9) (by rw [c207, c149]; rw [c208, c150]; rw [c192, c135]; first | exact f_8 | exact hQ14) (by rw [c209, c151]; rw [c210, c152]; rw [c192, c135]; first | exact f_9 | exact hQ15) (by rw [c211, c153]; rw [c212, c154]; rw [c192, c135]; first | exact f_10 | exact hQ16) (by rw [c213, c155]; rw [c214, c156]; rw [c192, c135]; first | exact f_11 | exact hQ17) (by rw [c215, c157]; rw [c216, c158]; rw [c192, c135]; first | exact f_12 | exact hQ18) (by rw [c217, c159]; rw [c218, c160]; rw [c192, c135]; first | exact f_13 | exact hQ19) (by rw [c219, c161]; rw [c220, c162]; rw [c192, c135]; first | exact f_14 | exact hQ20) (by rw [c221, c163]; rw [c222, c164]; rw [c194, c137]; first | exact f_15 | exact hQ24) (by rw [c223, c165]; rw [c224, c166]; rw [c194, c137]; first | exact f_16 | exact hQ25) (by rw [c225, c167]; rw [c226, c168]; rw [c194, c137]; first | exact f_17 | exact hQ23) (by rw [c227, c169]; rw [c228, c170]; rw [c194, c137]; first | exact f_18 | exact hQ26) (by rw [c229, c171]; rw [c230, c172]; rw [c194, c137]; first | exact f_19 | exact hQ27) (by rw [c231, c173]; rw [c232, c174]; rw [c196, c139]; first | exact f_20 | exact hQ36) (by rw [c233, c175]; rw [c234, c176]; rw [c196, c139]; first | exact f_21 | exact hQ37) (by omega)
        · clear h119
          refine sf_sw1 sf_c2 (fun h236 => ?_) (fun h236 => ?_)
          · refine sf_aload rfl ?_
            refine sf_aload rfl ?_
            refine sf_iload rfl ?_
            refine sf_iconst sf_c1 (fun z237 ez237 => ?_)
            refine sf_iadd (by omega) (fun v238 ev238 => ?_)
            refine sf_sldk (x := x4) (k := 1) (by omega) (by omega) (by omega) ?_
            clear ev238 ez237
            refine sf_aload rfl ?_
            refine sf_iload rfl ?_
            refine sf_iconst sf_c2 (fun z239 ez239 => ?_)
            refine sf_iadd (by omega) (fun v240 ev240 => ?_)
            refine sf_sldk (x := x4) (k := 2) (by omega) (by omega) (by omega) ?_
            clear ev240 ez239
            refine sf_aload rfl ?_
            refine sf_iload rfl ?_
            refine sf_iconst sf_c3 (fun z241 ez241 => ?_)
            refine sf_iadd (by omega) (fun v242 ev242 => ?_)
            refine sf_sldk (x := x4) (k := 3) (by omega) (by omega) (by omega) ?_
            clear ev242 ez241
            refine sf_aload rfl ?_
            refine sf_callv5 rfl (by omega) (by omega) ?_
            refine sc_W_fact_0_130 I_w  (fun v243 w244 Iw244 tw244 lv243 uv243 q245_0 q245_1 => ?_)
            have c246 := sf_mf tw244 (p := 1) (j := 0) rfl
            have c247 := sf_mf tw244 (p := 71) (j := 1) rfl
            have c248 := sf_mf tw244 (p := 1) (j := 5) rfl
            have c249 := sf_mf tw244 (p := 71) (j := 5) rfl
            have c250 := sf_mf tw244 (p := 13) (j := 1) rfl
            have c251 := sf_mf tw244 (p := 71) (j := 10) rfl
            have c252 := sf_mf tw244 (p := 21) (j := 1) rfl
            have c253 := sf_mf tw244 (p := 71) (j := 18) rfl
            have c254 := sf_mf tw244 (p := 35) (j := 0) rfl
            have c255 := sf_mf tw244 (p := 71) (j := 35) rfl
            have c256 := sf_ma tw244 (p := 3) rfl
            have c257 := sf_ma tw244 (p := 72) rfl
            have c258 := sf_ma tw244 (p := 93) rfl
            have c259 := sf_ma tw244 (p := 2) rfl
            have c260 := sf_ma tw244 (p := 6) rfl
            have c261 := sf_ma tw244 (p := 75) rfl
            have c262 := sf_ma tw244 (p := 7) rfl
            have c263 := sf_ma tw244 (p := 76) rfl
            have c264 := sf_ma tw244 (p := 8) rfl
            have c265 := sf_ma tw244 (p := 77) rfl
            have c266 := sf_ma tw244 (p := 9) rfl
            have c267 := sf_ma tw244 (p := 78) rfl
            have c268 := sf_ma tw244 (p := 14) rfl
            have c269 := sf_ma tw244 (p := 79) rfl
            have c270 := sf_ma tw244 (p := 15) rfl
            have c271 := sf_ma tw244 (p := 80) rfl
            have c272 := sf_ma tw244 (p := 16) rfl
            have c273 := sf_ma tw244 (p := 81) rfl
            have c274 := sf_ma tw244 (p := 17) rfl
            have c275 := sf_ma tw244 (p := 82) rfl
            have c276 := sf_ma tw244 (p := 18) rfl
            have c277 := sf_ma tw244 (p := 83) rfl
            have c278 := sf_ma tw244 (p := 19) rfl
            have c279 := sf_ma tw244 (p := 84) rfl
            have c280 := sf_ma tw244 (p := 20) rfl
            have c281 := sf_ma tw244 (p := 85) rfl
            have c282 := sf_ma tw244 (p := 24) rfl
            have c283 := sf_ma tw244 (p := 86) rfl
            have c284 := sf_ma tw244 (p := 25) rfl
            have c285 := sf_ma tw244 (p := 87) rfl
            have c286 := sf_ma tw244 (p := 23) rfl
            have c287 := sf_ma tw244 (p := 88) rfl
            have c288 := sf_ma tw244 (p := 26) rfl
            have c289 := sf_ma tw244 (p := 89) rfl
            have c290 := sf_ma tw244 (p := 27) rfl
            have c291 := sf_ma tw244 (p := 90) rfl
            have c292 := sf_ma tw244 (p := 36) rfl
            have c293 := sf_ma tw244 (p := 102) rfl
            have c294 := sf_ma tw244 (p := 37) rfl
            have c295 := sf_ma tw244 (p := 103) rfl
            have F1 := q245_0
            have F2 := q245_1
            clear q245_0 q245_1
            refine sf_istore (L' := [(0, .inl (.ref 100000)), (1, .inl (.ref 0)), (2, .inl (.ref 71)), (3, .inl (.ref 130)), (4, .inl (.int x4))]) rfl ?_
            refine sf_aload rfl ?_
            refine sf_aload rfl ?_
            refine sf_iload rfl ?_
            refine sf_iconst sf_c1 (fun z296 ez296 => ?_)
            refine sf_iadd (by omega) (fun v297 ev297 => ?_)
            refine sf_sldk (x := x4) (k := 1) (by omega) (by omega) (by omega) ?_
            clear ev297 ez296
            refine sf_aload rfl ?_
            refine sf_iload rfl ?_
            refine sf_iconst sf_c2 (fun z298 ez298 => ?_)
            refine sf_iadd (by omega) (fun v299 ev299 => ?_)
            refine sf_sldk (x := x4) (k := 2) (by omega) (by omega) (by omega) ?_
            clear ev299 ez298
            refine sf_aload rfl ?_
            refine sf_iload rfl ?_
            refine sf_iconst sf_c3 (fun z300 ez300 => ?_)
            refine sf_iadd (by omega) (fun v301 ev301 => ?_)
            refine sf_sldk (x := x4) (k := 3) (by omega) (by omega) (by omega) ?_
            clear ev301 ez300
            refine sf_callv4 rfl (by omega) (by omega) ?_
            refine sf_rv Iw244 rfl ?_
            refine sc_M_fact Iw244  (fun v302 w303 Iw303 tw303 lv302 uv302 q304_0 q304_1 => ?_)
            rw [c258] at q304_0
            rw [c258] at q304_1
            have c305 := sf_mf tw303 (p := 1) (j := 0) rfl
            have c306 := sf_mf tw303 (p := 71) (j := 1) rfl
            have c307 := sf_mf tw303 (p := 1) (j := 5) rfl
            have c308 := sf_mf tw303 (p := 71) (j := 5) rfl
            have c309 := sf_mf tw303 (p := 13) (j := 1) rfl
            have c310 := sf_mf tw303 (p := 71) (j := 10) rfl
            have c311 := sf_mf tw303 (p := 21) (j := 1) rfl
            have c312 := sf_mf tw303 (p := 71) (j := 18) rfl
            have c313 := sf_mf tw303 (p := 35) (j := 0) rfl
            have c314 := sf_mf tw303 (p := 71) (j := 35) rfl
            have c315 := sf_ma tw303 (p := 3) rfl
            have c316 := sf_ma tw303 (p := 72) rfl
            have c317 := sf_mg tw303 (p := 10) rfl
            have c318 := sf_mL tw303 (p := 130) rfl
            have c319 := sf_ma tw303 (p := 2) rfl
            have c320 := sf_ma tw303 (p := 6) rfl
            have c321 := sf_ma tw303 (p := 75) rfl
            have c322 := sf_ma tw303 (p := 7) rfl
            have c323 := sf_ma tw303 (p := 76) rfl
            have c324 := sf_ma tw303 (p := 8) rfl
            have c325 := sf_ma tw303 (p := 77) rfl
            have c326 := sf_ma tw303 (p := 9) rfl
            have c327 := sf_ma tw303 (p := 78) rfl
            have c328 := sf_ma tw303 (p := 14) rfl
            have c329 := sf_ma tw303 (p := 79) rfl
            have c330 := sf_ma tw303 (p := 15) rfl
            have c331 := sf_ma tw303 (p := 80) rfl
            have c332 := sf_ma tw303 (p := 16) rfl
            have c333 := sf_ma tw303 (p := 81) rfl
            have c334 := sf_ma tw303 (p := 17) rfl
            have c335 := sf_ma tw303 (p := 82) rfl
            have c336 := sf_ma tw303 (p := 18) rfl
            have c337 := sf_ma tw303 (p := 83) rfl
            have c338 := sf_ma tw303 (p := 19) rfl
            have c339 := sf_ma tw303 (p := 84) rfl
            have c340 := sf_ma tw303 (p := 20) rfl
            have c341 := sf_ma tw303 (p := 85) rfl
            have c342 := sf_ma tw303 (p := 24) rfl
            have c343 := sf_ma tw303 (p := 86) rfl
            have c344 := sf_ma tw303 (p := 25) rfl
            have c345 := sf_ma tw303 (p := 87) rfl
            have c346 := sf_ma tw303 (p := 23) rfl
            have c347 := sf_ma tw303 (p := 88) rfl
            have c348 := sf_ma tw303 (p := 26) rfl
            have c349 := sf_ma tw303 (p := 89) rfl
            have c350 := sf_ma tw303 (p := 27) rfl
            have c351 := sf_ma tw303 (p := 90) rfl
            have c352 := sf_ma tw303 (p := 36) rfl
            have c353 := sf_ma tw303 (p := 102) rfl
            have c354 := sf_ma tw303 (p := 37) rfl
            have c355 := sf_ma tw303 (p := 103) rfl
            have G1 := q304_0
            have G2 := q304_1
            clear q304_0 q304_1
            have hK2 : sf_K (sf_g w244 10) (sf_a w303 93) := by
              rcases F2 with ⟨h1, h2⟩ | ⟨h1, h2, h3⟩ <;> rcases G2 with ⟨g1, g2⟩ | ⟨g1, g2, g3⟩
              · rw [h2, g2]; exact f_2
              · exfalso; omega
              · exfalso; omega
              · rw [h2, g2]; exact sf_KF f_2 (by omega) (by omega)
            have hKv : v243.toInt = 0 → (sf_g w 10 (xs (x4.toInt.toNat + 1)).toInt.toNat (xs (x4.toInt.toNat + 2)).toInt.toNat).toInt = (sf_a w 93 (8 * (xs (x4.toInt.toNat + 1)).toInt + (xs (x4.toInt.toNat + 2)).toInt).toNat).toInt := fun h1 => sf_Kv f_2 (by omega) (by omega)
            clear F2 G2
            refine sf_istore (L' := [(5, .inl (.int v243)), (0, .inl (.ref 100000)), (1, .inl (.ref 0)), (2, .inl (.ref 71)), (3, .inl (.ref 130)), (4, .inl (.int x4))]) rfl ?_
            show kt_W_law_1421 N xs K _ _ _ _ _
            refine sf_iinc (L' := [(6, .inl (.int v302)), (5, .inl (.int v243)), (0, .inl (.ref 100000)), (1, .inl (.ref 0)), (2, .inl (.ref 71)), (3, .inl (.ref 130))]) (x := x4) sf_c8 rfl rfl (by omega) (fun v356 ev356 => ?_)
            refine sf_can (L' := [(0, .inl (.ref 100000)), (1, .inl (.ref 0)), (2, .inl (.ref 71)), (3, .inl (.ref 130)), (4, .inl (.int v356))]) rfl ?_
            exact ih _ _ _ _ Iw303 (by omega) (by omega) (by omega) (by omega) (by rw [c305, c246]; rw [c306, c247]; rw [c307, c248]; rw [c308, c249]; rw [c309, c250]; rw [c310, c251]; rw [c311, c252]; rw [c312, c253]; rw [c313, c254]; rw [c314, c255]; omega) (by rw [c315, c256]; rw [c316, c257]; rw [c306, c247]; first | exact f_1 | exact hJ) (by rw [c317]; first | exact f_2 | exact hK2) (by rw [c319, c259]; rw [c316, c257]; rw [c306, c247]; first | exact f_3 | exact hQ2) (by rw [c320, c260]; rw [c321, c261]; rw [c308, c249]; first | exact f_4 | exact hQ6) (by rw [c322, c262]; rw [c323, c263]; rw [c308, c249]; first | exact f_5 | exact hQ7) (by rw [c324, c264]; rw [c325, c265]; rw [c308, c249]; first | exact f_6 | exact hQ8) (by rw [c326, c266]; rw [c327, c267]; rw [c308, c249]; first | exact f_7 | exact hQ9) (by rw [c328, c268]; rw [c329, c269]; rw [c310, c251]; first | exact f_8 | exact hQ14) (by rw [c330, c270]; rw [c331, c271]; rw [c310, c251]; first | exact f_9 | exact hQ15) (by rw [c332, c272]; rw [c333, c273]; rw [c310, c251]; first | exact f_10 | exact hQ16) (by rw [c334, c274]; rw [c335, c275]; rw [c310, c251]; first | exact f_11 | exact hQ17) (by rw [c336, c276]; rw [c337, c277]; rw [c310, c251]; first | exact f_12 | exact hQ18) (by rw [c338, c278]; rw [c339, c279]; rw [c310, c251]; first | exact f_13 | exact hQ19) (by rw [c340, c280]; rw [c341, c281]; rw [c310, c251]; first | exact f_14 | exact hQ20) (by rw [c342, c282]; rw [c343, c283]; rw [c312, c253]; first | exact f_15 | exact hQ24) (by rw [c344, c284]; rw [c345, c285]; rw [c312, c253]; first | exact f_16 | exact hQ25) (by rw [c346, c286]; rw [c347, c287]; rw [c312, c253]; first | exact f_17 | exact hQ23) (by rw [c348, c288]; rw [c349, c289]; rw [c312, c253]; first | exact f_18 | exact hQ26) (by rw [c350, c290]; rw [c351, c291]; rw [c312, c253]; first | exact f_19 | exact hQ27) (by rw [c352, c292]; rw [c353, c293]; rw [c314, c255]; first | exact f_20 | exact hQ36) (by rw [c354, c294]; rw [c355, c295]; rw [c314, c255]; first | exact f_21 | exact hQ37) (by omega)
          · clear h236
            refine sf_sw1 sf_c3 (fun h357 => ?_) (fun h357 => ?_)
            · refine sf_aload rfl ?_
              refine sf_aload rfl ?_
              refine sf_iload rfl ?_
              refine sf_iconst sf_c1 (fun z358 ez358 => ?_)
              refine sf_iadd (by omega) (fun v359 ev359 => ?_)
              refine sf_sldk (x := x4) (k := 1) (by omega) (by omega) (by omega) ?_
              clear ev359 ez358
              refine sf_aload rfl ?_
              refine sf_callv3 rfl (by omega) (by omega) ?_
              refine sc_W_classify_0_130 I_w (by exact sf_JQ f_1 f_3 (by omega)) (fun v360 w361 Iw361 tw361 lv360 uv360 q362_0 => ?_)
              have c363 := sf_mf tw361 (p := 1) (j := 0) rfl
              have c364 := sf_mf tw361 (p := 71) (j := 1) rfl
              have c365 := sf_mf tw361 (p := 1) (j := 5) rfl
              have c366 := sf_mf tw361 (p := 71) (j := 5) rfl
              have c367 := sf_mf tw361 (p := 13) (j := 1) rfl
              have c368 := sf_mf tw361 (p := 71) (j := 10) rfl
              have c369 := sf_mf tw361 (p := 21) (j := 1) rfl
              have c370 := sf_mf tw361 (p := 71) (j := 18) rfl
              have c371 := sf_mf tw361 (p := 35) (j := 0) rfl
              have c372 := sf_mf tw361 (p := 71) (j := 35) rfl
              have c373 := sf_ma tw361 (p := 3) rfl
              have c374 := sf_ma tw361 (p := 72) rfl
              have c375 := sf_mg tw361 (p := 10) rfl
              have c376 := sf_ma tw361 (p := 93) rfl
              have c377 := sf_ma tw361 (p := 2) rfl
              have c378 := sf_ma tw361 (p := 6) rfl
              have c379 := sf_ma tw361 (p := 75) rfl
              have c380 := sf_ma tw361 (p := 7) rfl
              have c381 := sf_ma tw361 (p := 76) rfl
              have c382 := sf_ma tw361 (p := 8) rfl
              have c383 := sf_ma tw361 (p := 77) rfl
              have c384 := sf_ma tw361 (p := 9) rfl
              have c385 := sf_ma tw361 (p := 78) rfl
              have c386 := sf_ma tw361 (p := 14) rfl
              have c387 := sf_ma tw361 (p := 79) rfl
              have c388 := sf_ma tw361 (p := 15) rfl
              have c389 := sf_ma tw361 (p := 80) rfl
              have c390 := sf_ma tw361 (p := 16) rfl
              have c391 := sf_ma tw361 (p := 81) rfl
              have c392 := sf_ma tw361 (p := 17) rfl
              have c393 := sf_ma tw361 (p := 82) rfl
              have c394 := sf_ma tw361 (p := 18) rfl
              have c395 := sf_ma tw361 (p := 83) rfl
              have c396 := sf_ma tw361 (p := 19) rfl
              have c397 := sf_ma tw361 (p := 84) rfl
              have c398 := sf_ma tw361 (p := 20) rfl
              have c399 := sf_ma tw361 (p := 85) rfl
              have c400 := sf_ma tw361 (p := 24) rfl
              have c401 := sf_ma tw361 (p := 86) rfl
              have c402 := sf_ma tw361 (p := 25) rfl
              have c403 := sf_ma tw361 (p := 87) rfl
              have c404 := sf_ma tw361 (p := 23) rfl
              have c405 := sf_ma tw361 (p := 88) rfl
              have c406 := sf_ma tw361 (p := 26) rfl
              have c407 := sf_ma tw361 (p := 89) rfl
              have c408 := sf_ma tw361 (p := 27) rfl
              have c409 := sf_ma tw361 (p := 90) rfl
              have c410 := sf_ma tw361 (p := 36) rfl
              have c411 := sf_ma tw361 (p := 102) rfl
              have c412 := sf_ma tw361 (p := 37) rfl
              have c413 := sf_ma tw361 (p := 103) rfl
              have F1 := q362_0
              refine sf_istore (L' := [(0, .inl (.ref 100000)), (1, .inl (.ref 0)), (2, .inl (.ref 71)), (3, .inl (.ref 130)), (4, .inl (.int x4))]) rfl ?_
              refine sf_aload rfl ?_
              refine sf_aload rfl ?_
              refine sf_iload rfl ?_
              refine sf_iconst sf_c1 (fun z414 ez414 => ?_)
              refine sf_iadd (by omega) (fun v415 ev415 => ?_)
              refine sf_sldk (x := x4) (k := 1) (by omega) (by omega) (by omega) ?_
              clear ev415 ez414
              refine sf_callv2 rfl (by omega) (by omega) ?_
              refine sf_rv Iw361 rfl ?_
              refine sc_M_classify Iw361 (by rw [c373]; rw [c374]; rw [c364]; exact f_1) (fun v416 w417 Iw417 tw417 lv416 uv416 q418_0 => ?_)
              rw [c373] at q418_0
              rw [c374] at q418_0
              rw [c379] at q418_0
              rw [c381] at q418_0
              rw [c383] at q418_0
              rw [c385] at q418_0
              rw [c376] at q418_0
              rw [c364] at q418_0
              rw [c366] at q418_0
              have c419 := sf_mf tw417 (p := 1) (j := 0) rfl
              have c420 := sf_mf tw417 (p := 71) (j := 1) rfl
              have c421 := sf_mf tw417 (p := 1) (j := 5) rfl
              have c422 := sf_mf tw417 (p := 71) (j := 5) rfl
              have c423 := sf_mf tw417 (p := 13) (j := 1) rfl
              have c424 := sf_mf tw417 (p := 71) (j := 10) rfl
              have c425 := sf_mf tw417 (p := 21) (j := 1) rfl
              have c426 := sf_mf tw417 (p := 71) (j := 18) rfl
              have c427 := sf_mf tw417 (p := 35) (j := 0) rfl
              have c428 := sf_mf tw417 (p := 71) (j := 35) rfl
              have c429 := sf_ma tw417 (p := 3) rfl
              have c430 := sf_ma tw417 (p := 72) rfl
              have c431 := sf_mg tw417 (p := 10) rfl
              have c432 := sf_ma tw417 (p := 93) rfl
              have c433 := sf_mL tw417 (p := 130) rfl
              have c434 := sf_ma tw417 (p := 2) rfl
              have c435 := sf_ma tw417 (p := 6) rfl
              have c436 := sf_ma tw417 (p := 75) rfl
              have c437 := sf_ma tw417 (p := 7) rfl
              have c438 := sf_ma tw417 (p := 76) rfl
              have c439 := sf_ma tw417 (p := 8) rfl
              have c440 := sf_ma tw417 (p := 77) rfl
              have c441 := sf_ma tw417 (p := 9) rfl
              have c442 := sf_ma tw417 (p := 78) rfl
              have c443 := sf_ma tw417 (p := 14) rfl
              have c444 := sf_ma tw417 (p := 79) rfl
              have c445 := sf_ma tw417 (p := 15) rfl
              have c446 := sf_ma tw417 (p := 80) rfl
              have c447 := sf_ma tw417 (p := 16) rfl
              have c448 := sf_ma tw417 (p := 81) rfl
              have c449 := sf_ma tw417 (p := 17) rfl
              have c450 := sf_ma tw417 (p := 82) rfl
              have c451 := sf_ma tw417 (p := 18) rfl
              have c452 := sf_ma tw417 (p := 83) rfl
              have c453 := sf_ma tw417 (p := 19) rfl
              have c454 := sf_ma tw417 (p := 84) rfl
              have c455 := sf_ma tw417 (p := 20) rfl
              have c456 := sf_ma tw417 (p := 85) rfl
              have c457 := sf_ma tw417 (p := 24) rfl
              have c458 := sf_ma tw417 (p := 86) rfl
              have c459 := sf_ma tw417 (p := 25) rfl
              have c460 := sf_ma tw417 (p := 87) rfl
              have c461 := sf_ma tw417 (p := 23) rfl
              have c462 := sf_ma tw417 (p := 88) rfl
              have c463 := sf_ma tw417 (p := 26) rfl
              have c464 := sf_ma tw417 (p := 89) rfl
              have c465 := sf_ma tw417 (p := 27) rfl
              have c466 := sf_ma tw417 (p := 90) rfl
              have c467 := sf_ma tw417 (p := 36) rfl
              have c468 := sf_ma tw417 (p := 102) rfl
              have c469 := sf_ma tw417 (p := 37) rfl
              have c470 := sf_ma tw417 (p := 103) rfl
              have G1 := q418_0
              have b40 := (sf_fb I_w (p := 71) (ci := 9) (j := 5) rfl rfl).2
              have hE : 0 ≤ (xs (x4.toInt.toNat + 1)).toInt → (xs (x4.toInt.toNat + 1)).toInt ≤ 15 → sj_B (sp_fi (sf_a w 2) (sf_a w 6) (sf_a w 7) (sf_a w 8) (sf_a w 9) (sp_ag (sf_g w 10) (xs (x4.toInt.toNat + 1)).toInt.toNat) (sf_f w 1 5).toInt.toNat) (sp_d (sf_a w 3)) (sp_sh (sf_a w 2) (sf_a w 6) (sf_a w 7) (sf_a w 8) (sp_ag (sf_g w 10) (xs (x4.toInt.toNat + 1)).toInt.toNat) (sf_f w 1 5).toInt.toNat) (sf_f w 1 0).toInt.toNat = sj_B (sp_fi (sf_a w 72) (sf_a w 75) (sf_a w 76) (sf_a w 77) (sf_a w 78) (sp_aa (sf_a w 93) (xs (x4.toInt.toNat + 1)).toInt.toNat) (sf_f w 71 5).toInt.toNat) (sp_d (sf_a w 3)) (sp_sh (sf_a w 72) (sf_a w 75) (sf_a w 76) (sf_a w 77) (sp_aa (sf_a w 93) (xs (x4.toInt.toNat + 1)).toInt.toNat) (sf_f w 71 5).toInt.toNat) (sf_f w 71 1).toInt.toNat := fun h1 h2 => sp_BE f_1 f_3 f_4 f_5 f_6 f_7 (fun i hi => (sf_arr I_w (p := 77) rfl).2.1 i (by omega)) (fun j hj => congrArg Int32.toInt (f_2 _ j (by omega) hj)) (by omega) (by omega)
              refine sf_istore (L' := [(5, .inl (.int v360)), (0, .inl (.ref 100000)), (1, .inl (.ref 0)), (2, .inl (.ref 71)), (3, .inl (.ref 130)), (4, .inl (.int x4))]) rfl ?_
              show kt_W_law_1421 N xs K _ _ _ _ _
              refine sf_iinc (L' := [(6, .inl (.int v416)), (5, .inl (.int v360)), (0, .inl (.ref 100000)), (1, .inl (.ref 0)), (2, .inl (.ref 71)), (3, .inl (.ref 130))]) (x := x4) sf_c8 rfl rfl (by omega) (fun v471 ev471 => ?_)
              refine sf_can (L' := [(0, .inl (.ref 100000)), (1, .inl (.ref 0)), (2, .inl (.ref 71)), (3, .inl (.ref 130)), (4, .inl (.int v471))]) rfl ?_
              exact ih _ _ _ _ Iw417 (by omega) (by omega) (by omega) (by omega) (by rw [c419, c363]; rw [c420, c364]; rw [c421, c365]; rw [c422, c366]; rw [c423, c367]; rw [c424, c368]; rw [c425, c369]; rw [c426, c370]; rw [c427, c371]; rw [c428, c372]; omega) (by rw [c429, c373]; rw [c430, c374]; rw [c420, c364]; first | exact f_1 | exact hJ) (by rw [c431, c375]; rw [c432, c376]; first | exact f_2 | exact hK2) (by rw [c434, c377]; rw [c430, c374]; rw [c420, c364]; first | exact f_3 | exact hQ2) (by rw [c435, c378]; rw [c436, c379]; rw [c422, c366]; first | exact f_4 | exact hQ6) (by rw [c437, c380]; rw [c438, c381]; rw [c422, c366]; first | exact f_5 | exact hQ7) (by rw [c439, c382]; rw [c440, c383]; rw [c422, c366]; first | exact f_6 | exact hQ8) (by rw [c441, c384]; rw [c442, c385]; rw [c422, c366]; first | exact f_7 | exact hQ9) (by rw [c443, c386]; rw [c444, c387]; rw [c424, c368]; first | exact f_8 | exact hQ14) (by rw [c445, c388]; rw [c446, c389]; rw [c424, c368]; first | exact f_9 | exact hQ15) (by rw [c447, c390]; rw [c448, c391]; rw [c424, c368]; first | exact f_10 | exact hQ16) (by rw [c449, c392]; rw [c450, c393]; rw [c424, c368]; first | exact f_11 | exact hQ17) (by rw [c451, c394]; rw [c452, c395]; rw [c424, c368]; first | exact f_12 | exact hQ18) (by rw [c453, c396]; rw [c454, c397]; rw [c424, c368]; first | exact f_13 | exact hQ19) (by rw [c455, c398]; rw [c456, c399]; rw [c424, c368]; first | exact f_14 | exact hQ20) (by rw [c457, c400]; rw [c458, c401]; rw [c426, c370]; first | exact f_15 | exact hQ24) (by rw [c459, c402]; rw [c460, c403]; rw [c426, c370]; first | exact f_16 | exact hQ25) (by rw [c461, c404]; rw [c462, c405]; rw [c426, c370]; first | exact f_17 | exact hQ23) (by rw [c463, c406]; rw [c464, c407]; rw [c426, c370]; first | exact f_18 | exact hQ26) (by rw [c465, c408]; rw [c466, c409]; rw [c426, c370]; first | exact f_19 | exact hQ27) (by rw [c467, c410]; rw [c468, c411]; rw [c428, c372]; first | exact f_20 | exact hQ36) (by rw [c469, c412]; rw [c470, c413]; rw [c428, c372]; first | exact f_21 | exact hQ37) (by omega)
            · clear h357
              refine sf_sw1 sf_c4 (fun h472 => ?_) (fun h472 => ?_)
              · refine sf_aload rfl ?_
                refine sf_aload rfl ?_
                refine sf_iload rfl ?_
                refine sf_iconst sf_c1 (fun z473 ez473 => ?_)
                refine sf_iadd (by omega) (fun v474 ev474 => ?_)
                refine sf_sldk (x := x4) (k := 1) (by omega) (by omega) (by omega) ?_
                clear ev474 ez473
                refine sf_aload rfl ?_
                refine sf_iload rfl ?_
                refine sf_iconst sf_c2 (fun z475 ez475 => ?_)
                refine sf_iadd (by omega) (fun v476 ev476 => ?_)
                refine sf_sldk (x := x4) (k := 2) (by omega) (by omega) (by omega) ?_
                clear ev476 ez475
                refine sf_aload rfl ?_
                refine sf_iload rfl ?_
                refine sf_iconst sf_c3 (fun z477 ez477 => ?_)
                refine sf_iadd (by omega) (fun v478 ev478 => ?_)
                refine sf_sldk (x := x4) (k := 3) (by omega) (by omega) (by omega) ?_
                clear ev478 ez477
                refine sf_aload rfl ?_
                refine sf_iload rfl ?_
                refine sf_iconst sf_c4 (fun z479 ez479 => ?_)
                refine sf_iadd (by omega) (fun v480 ev480 => ?_)
                refine sf_sldk (x := x4) (k := 4) (by omega) (by omega) (by omega) ?_
                clear ev480 ez479
                refine sf_aload rfl ?_
                refine sf_iload rfl ?_
                refine sf_iconst sf_c5 (fun z481 ez481 => ?_)
                refine sf_iadd (by omega) (fun v482 ev482 => ?_)
                refine sf_sldk (x := x4) (k := 5) (by omega) (by omega) (by omega) ?_
                clear ev482 ez481
                refine sf_aload rfl ?_
                refine sf_iload rfl ?_
                refine sf_iconst sf_c6 (fun z483 ez483 => ?_)
                refine sf_iadd (by omega) (fun v484 ev484 => ?_)
                refine sf_sldk (x := x4) (k := 6) (by omega) (by omega) (by omega) ?_
                clear ev484 ez483
                refine sf_aload rfl ?_
                refine sf_iload rfl ?_
                refine sf_iconst sf_c7 (fun z485 ez485 => ?_)
                refine sf_iadd (by omega) (fun v486 ev486 => ?_)
                refine sf_sldk (x := x4) (k := 7) (by omega) (by omega) (by omega) ?_
                clear ev486 ez485
                refine sf_aload rfl ?_
                refine sf_callv9 rfl (by omega) (by omega) ?_
                refine sc_W_rate_0_130 I_w  (fun v487 w488 Iw488 tw488 lv487 uv487 q489_0 q489_1 q489_2 q489_3 q489_4 q489_5 q489_6 q489_7 => ?_)
                have c490 := sf_mf tw488 (p := 1) (j := 0) rfl
                have c491 := sf_mf tw488 (p := 71) (j := 1) rfl
                have c492 := sf_mf tw488 (p := 1) (j := 5) rfl
                have c493 := sf_mf tw488 (p := 71) (j := 5) rfl
                have c494 := sf_mf tw488 (p := 71) (j := 10) rfl
                have c495 := sf_mf tw488 (p := 21) (j := 1) rfl
                have c496 := sf_mf tw488 (p := 71) (j := 18) rfl
                have c497 := sf_mf tw488 (p := 35) (j := 0) rfl
                have c498 := sf_mf tw488 (p := 71) (j := 35) rfl
                have c499 := sf_ma tw488 (p := 3) rfl
                have c500 := sf_ma tw488 (p := 72) rfl
                have c501 := sf_mg tw488 (p := 10) rfl
                have c502 := sf_ma tw488 (p := 93) rfl
                have c503 := sf_ma tw488 (p := 2) rfl
                have c504 := sf_ma tw488 (p := 6) rfl
                have c505 := sf_ma tw488 (p := 75) rfl
                have c506 := sf_ma tw488 (p := 7) rfl
                have c507 := sf_ma tw488 (p := 76) rfl
                have c508 := sf_ma tw488 (p := 8) rfl
                have c509 := sf_ma tw488 (p := 77) rfl
                have c510 := sf_ma tw488 (p := 9) rfl
                have c511 := sf_ma tw488 (p := 78) rfl
                have c512 := sf_ma tw488 (p := 79) rfl
                have c513 := sf_ma tw488 (p := 80) rfl
                have c514 := sf_ma tw488 (p := 81) rfl
                have c515 := sf_ma tw488 (p := 82) rfl
                have c516 := sf_ma tw488 (p := 83) rfl
                have c517 := sf_ma tw488 (p := 84) rfl
                have c518 := sf_ma tw488 (p := 85) rfl
                have c519 := sf_ma tw488 (p := 24) rfl
                have c520 := sf_ma tw488 (p := 86) rfl
                have c521 := sf_ma tw488 (p := 25) rfl
                have c522 := sf_ma tw488 (p := 87) rfl
                have c523 := sf_ma tw488 (p := 23) rfl
                have c524 := sf_ma tw488 (p := 88) rfl
                have c525 := sf_ma tw488 (p := 26) rfl
                have c526 := sf_ma tw488 (p := 89) rfl
                have c527 := sf_ma tw488 (p := 27) rfl
                have c528 := sf_ma tw488 (p := 90) rfl
                have c529 := sf_ma tw488 (p := 36) rfl
                have c530 := sf_ma tw488 (p := 102) rfl
                have c531 := sf_ma tw488 (p := 37) rfl
                have c532 := sf_ma tw488 (p := 103) rfl
                have U14 := q489_1
                have U15 := q489_2
                have U16 := q489_3
                have U17 := q489_4
                have U18 := q489_5
                have U19 := q489_6
                have U20 := q489_7
                clear q489_1 q489_2 q489_3 q489_4 q489_5 q489_6 q489_7
                have F1 := q489_0
                refine sf_istore (L' := [(0, .inl (.ref 100000)), (1, .inl (.ref 0)), (2, .inl (.ref 71)), (3, .inl (.ref 130)), (4, .inl (.int x4))]) rfl ?_
                refine sf_aload rfl ?_
                refine sf_aload rfl ?_
                refine sf_iload rfl ?_
                refine sf_iconst sf_c1 (fun z533 ez533 => ?_)
                refine sf_iadd (by omega) (fun v534 ev534 => ?_)
                refine sf_sldk (x := x4) (k := 1) (by omega) (by omega) (by omega) ?_
                clear ev534 ez533
                refine sf_aload rfl ?_
                refine sf_iload rfl ?_
                refine sf_iconst sf_c2 (fun z535 ez535 => ?_)
                refine sf_iadd (by omega) (fun v536 ev536 => ?_)
                refine sf_sldk (x := x4) (k := 2) (by omega) (by omega) (by omega) ?_
                clear ev536 ez535
                refine sf_aload rfl ?_
                refine sf_iload rfl ?_
                refine sf_iconst sf_c3 (fun z537 ez537 => ?_)
                refine sf_iadd (by omega) (fun v538 ev538 => ?_)
                refine sf_sldk (x := x4) (k := 3) (by omega) (by omega) (by omega) ?_
                clear ev538 ez537
                refine sf_aload rfl ?_
                refine sf_iload rfl ?_
                refine sf_iconst sf_c4 (fun z539 ez539 => ?_)
                refine sf_iadd (by omega) (fun v540 ev540 => ?_)
                refine sf_sldk (x := x4) (k := 4) (by omega) (by omega) (by omega) ?_
                clear ev540 ez539
                refine sf_aload rfl ?_
                refine sf_iload rfl ?_
                refine sf_iconst sf_c5 (fun z541 ez541 => ?_)
                refine sf_iadd (by omega) (fun v542 ev542 => ?_)
                refine sf_sldk (x := x4) (k := 5) (by omega) (by omega) (by omega) ?_
                clear ev542 ez541
                refine sf_aload rfl ?_
                refine sf_iload rfl ?_
                refine sf_iconst sf_c6 (fun z543 ez543 => ?_)
                refine sf_iadd (by omega) (fun v544 ev544 => ?_)
                refine sf_sldk (x := x4) (k := 6) (by omega) (by omega) (by omega) ?_
                clear ev544 ez543
                refine sf_aload rfl ?_
                refine sf_iload rfl ?_
                refine sf_iconst sf_c7 (fun z545 ez545 => ?_)
                refine sf_iadd (by omega) (fun v546 ev546 => ?_)
                refine sf_sldk (x := x4) (k := 7) (by omega) (by omega) (by omega) ?_
                clear ev546 ez545
                refine sf_callv8 rfl (by omega) (by omega) ?_
                refine sf_rv Iw488 rfl ?_
                refine sc_M_rate Iw488  (fun v547 w548 Iw548 tw548 lv547 uv547 q549_0 q549_1 q549_2 q549_3 q549_4 q549_5 q549_6 q549_7 => ?_)
                rw [c491] at q549_0
                rw [c494] at q549_0
                rw [c512] at q549_1
                rw [c494] at q549_1
                rw [c513] at q549_2
                rw [c494] at q549_2
                rw [c514] at q549_3
                rw [c494] at q549_3
                rw [c515] at q549_4
                rw [c494] at q549_4
                rw [c516] at q549_5
                rw [c494] at q549_5
                rw [c517] at q549_6
                rw [c494] at q549_6
                rw [c518] at q549_7
                rw [c494] at q549_7
                have c550 := sf_mf tw548 (p := 1) (j := 0) rfl
                have c551 := sf_mf tw548 (p := 71) (j := 1) rfl
                have c552 := sf_mf tw548 (p := 1) (j := 5) rfl
                have c553 := sf_mf tw548 (p := 71) (j := 5) rfl
                have c554 := sf_mf tw548 (p := 13) (j := 1) rfl
                have c555 := sf_mf tw548 (p := 21) (j := 1) rfl
                have c556 := sf_mf tw548 (p := 71) (j := 18) rfl
                have c557 := sf_mf tw548 (p := 35) (j := 0) rfl
                have c558 := sf_mf tw548 (p := 71) (j := 35) rfl
                have c559 := sf_ma tw548 (p := 3) rfl
                have c560 := sf_ma tw548 (p := 72) rfl
                have c561 := sf_mg tw548 (p := 10) rfl
                have c562 := sf_ma tw548 (p := 93) rfl
                have c563 := sf_mL tw548 (p := 130) rfl
                have c564 := sf_ma tw548 (p := 2) rfl
                have c565 := sf_ma tw548 (p := 6) rfl
                have c566 := sf_ma tw548 (p := 75) rfl
                have c567 := sf_ma tw548 (p := 7) rfl
                have c568 := sf_ma tw548 (p := 76) rfl
                have c569 := sf_ma tw548 (p := 8) rfl
                have c570 := sf_ma tw548 (p := 77) rfl
                have c571 := sf_ma tw548 (p := 9) rfl
                have c572 := sf_ma tw548 (p := 78) rfl
                have c573 := sf_ma tw548 (p := 14) rfl
                have c574 := sf_ma tw548 (p := 15) rfl
                have c575 := sf_ma tw548 (p := 16) rfl
                have c576 := sf_ma tw548 (p := 17) rfl
                have c577 := sf_ma tw548 (p := 18) rfl
                have c578 := sf_ma tw548 (p := 19) rfl
                have c579 := sf_ma tw548 (p := 20) rfl
                have c580 := sf_ma tw548 (p := 24) rfl
                have c581 := sf_ma tw548 (p := 86) rfl
                have c582 := sf_ma tw548 (p := 25) rfl
                have c583 := sf_ma tw548 (p := 87) rfl
                have c584 := sf_ma tw548 (p := 23) rfl
                have c585 := sf_ma tw548 (p := 88) rfl
                have c586 := sf_ma tw548 (p := 26) rfl
                have c587 := sf_ma tw548 (p := 89) rfl
                have c588 := sf_ma tw548 (p := 27) rfl
                have c589 := sf_ma tw548 (p := 90) rfl
                have c590 := sf_ma tw548 (p := 36) rfl
                have c591 := sf_ma tw548 (p := 102) rfl
                have c592 := sf_ma tw548 (p := 37) rfl
                have c593 := sf_ma tw548 (p := 103) rfl
                have U79 := q549_1
                have U80 := q549_2
                have U81 := q549_3
                have U82 := q549_4
                have U83 := q549_5
                have U84 := q549_6
                have U85 := q549_7
                clear q549_1 q549_2 q549_3 q549_4 q549_5 q549_6 q549_7
                have G1 := q549_0
                have hrc : v487.toInt = (sf_f w548 71 0).toInt := by omega
                have hcn : (v487.toInt = 0 ∧ (sf_f w548 71 10).toInt = (sf_f w 71 10).toInt + 1) ∨ (v487.toInt ≠ 0 ∧ (sf_f w548 71 10).toInt = (sf_f w 71 10).toInt) := by omega
                have hQ14 := sf_QH f_8 U14 U79 (by omega) hrc hcn
                have hQ15 := sf_QH f_9 U15 U80 (by omega) hrc hcn
                have hQ16 := sf_QH f_10 U16 U81 (by omega) hrc hcn
                have hQ17 := sf_QH f_11 U17 U82 (by omega) hrc hcn
                have hQ18 := sf_QH f_12 U18 U83 (by omega) hrc hcn
                have hQ19 := sf_QH f_13 U19 U84 (by omega) hrc hcn
                have hQ20 := sf_QH f_14 U20 U85 (by omega) hrc hcn
                refine sf_istore (L' := [(5, .inl (.int v487)), (0, .inl (.ref 100000)), (1, .inl (.ref 0)), (2, .inl (.ref 71)), (3, .inl (.ref 130)), (4, .inl (.int x4))]) rfl ?_
                show kt_W_law_1421 N xs K _ _ _ _ _
                refine sf_iinc (L' := [(6, .inl (.int v547)), (5, .inl (.int v487)), (0, .inl (.ref 100000)), (1, .inl (.ref 0)), (2, .inl (.ref 71)), (3, .inl (.ref 130))]) (x := x4) sf_c8 rfl rfl (by omega) (fun v594 ev594 => ?_)
                refine sf_can (L' := [(0, .inl (.ref 100000)), (1, .inl (.ref 0)), (2, .inl (.ref 71)), (3, .inl (.ref 130)), (4, .inl (.int v594))]) rfl ?_
                exact ih _ _ _ _ Iw548 (by omega) (by omega) (by omega) (by omega) (by rw [c550, c490]; rw [c551, c491]; rw [c552, c492]; rw [c553, c493]; rw [c554]; rw [c555, c495]; rw [c556, c496]; rw [c557, c497]; rw [c558, c498]; omega) (by rw [c559, c499]; rw [c560, c500]; rw [c551, c491]; first | exact f_1 | exact hJ) (by rw [c561, c501]; rw [c562, c502]; first | exact f_2 | exact hK2) (by rw [c564, c503]; rw [c560, c500]; rw [c551, c491]; first | exact f_3 | exact hQ2) (by rw [c565, c504]; rw [c566, c505]; rw [c553, c493]; first | exact f_4 | exact hQ6) (by rw [c567, c506]; rw [c568, c507]; rw [c553, c493]; first | exact f_5 | exact hQ7) (by rw [c569, c508]; rw [c570, c509]; rw [c553, c493]; first | exact f_6 | exact hQ8) (by rw [c571, c510]; rw [c572, c511]; rw [c553, c493]; first | exact f_7 | exact hQ9) (by rw [c573]; first | exact f_8 | exact hQ14) (by rw [c574]; first | exact f_9 | exact hQ15) (by rw [c575]; first | exact f_10 | exact hQ16) (by rw [c576]; first | exact f_11 | exact hQ17) (by rw [c577]; first | exact f_12 | exact hQ18) (by rw [c578]; first | exact f_13 | exact hQ19) (by rw [c579]; first | exact f_14 | exact hQ20) (by rw [c580, c519]; rw [c581, c520]; rw [c556, c496]; first | exact f_15 | exact hQ24) (by rw [c582, c521]; rw [c583, c522]; rw [c556, c496]; first | exact f_16 | exact hQ25) (by rw [c584, c523]; rw [c585, c524]; rw [c556, c496]; first | exact f_17 | exact hQ23) (by rw [c586, c525]; rw [c587, c526]; rw [c556, c496]; first | exact f_18 | exact hQ26) (by rw [c588, c527]; rw [c589, c528]; rw [c556, c496]; first | exact f_19 | exact hQ27) (by rw [c590, c529]; rw [c591, c530]; rw [c558, c498]; first | exact f_20 | exact hQ36) (by rw [c592, c531]; rw [c593, c532]; rw [c558, c498]; first | exact f_21 | exact hQ37) (by omega)
              · clear h472
                refine sf_sw1 sf_c5 (fun h595 => ?_) (fun h595 => ?_)
                · refine sf_aload rfl ?_
                  refine sf_aload rfl ?_
                  refine sf_iload rfl ?_
                  refine sf_iconst sf_c1 (fun z596 ez596 => ?_)
                  refine sf_iadd (by omega) (fun v597 ev597 => ?_)
                  refine sf_sldk (x := x4) (k := 1) (by omega) (by omega) (by omega) ?_
                  clear ev597 ez596
                  refine sf_aload rfl ?_
                  refine sf_iload rfl ?_
                  refine sf_iconst sf_c2 (fun z598 ez598 => ?_)
                  refine sf_iadd (by omega) (fun v599 ev599 => ?_)
                  refine sf_sldk (x := x4) (k := 2) (by omega) (by omega) (by omega) ?_
                  clear ev599 ez598
                  refine sf_aload rfl ?_
                  refine sf_iload rfl ?_
                  refine sf_iconst sf_c3 (fun z600 ez600 => ?_)
                  refine sf_iadd (by omega) (fun v601 ev601 => ?_)
                  refine sf_sldk (x := x4) (k := 3) (by omega) (by omega) (by omega) ?_
                  clear ev601 ez600
                  refine sf_aload rfl ?_
                  refine sf_callv5 rfl (by omega) (by omega) ?_
                  refine sc_W_rateFor_0_130 I_w  (fun v602 w603 Iw603 tw603 lv602 uv602 q604_0 => ?_)
                  have c605 := sf_mf tw603 (p := 1) (j := 0) rfl
                  have c606 := sf_mf tw603 (p := 71) (j := 1) rfl
                  have c607 := sf_mf tw603 (p := 1) (j := 5) rfl
                  have c608 := sf_mf tw603 (p := 71) (j := 5) rfl
                  have c609 := sf_mf tw603 (p := 13) (j := 1) rfl
                  have c610 := sf_mf tw603 (p := 71) (j := 10) rfl
                  have c611 := sf_mf tw603 (p := 21) (j := 1) rfl
                  have c612 := sf_mf tw603 (p := 71) (j := 18) rfl
                  have c613 := sf_mf tw603 (p := 35) (j := 0) rfl
                  have c614 := sf_mf tw603 (p := 71) (j := 35) rfl
                  have c615 := sf_ma tw603 (p := 3) rfl
                  have c616 := sf_ma tw603 (p := 72) rfl
                  have c617 := sf_mg tw603 (p := 10) rfl
                  have c618 := sf_ma tw603 (p := 93) rfl
                  have c619 := sf_ma tw603 (p := 2) rfl
                  have c620 := sf_ma tw603 (p := 6) rfl
                  have c621 := sf_ma tw603 (p := 75) rfl
                  have c622 := sf_ma tw603 (p := 7) rfl
                  have c623 := sf_ma tw603 (p := 76) rfl
                  have c624 := sf_ma tw603 (p := 8) rfl
                  have c625 := sf_ma tw603 (p := 77) rfl
                  have c626 := sf_ma tw603 (p := 9) rfl
                  have c627 := sf_ma tw603 (p := 78) rfl
                  have c628 := sf_ma tw603 (p := 14) rfl
                  have c629 := sf_ma tw603 (p := 79) rfl
                  have c630 := sf_ma tw603 (p := 15) rfl
                  have c631 := sf_ma tw603 (p := 80) rfl
                  have c632 := sf_ma tw603 (p := 16) rfl
                  have c633 := sf_ma tw603 (p := 81) rfl
                  have c634 := sf_ma tw603 (p := 17) rfl
                  have c635 := sf_ma tw603 (p := 82) rfl
                  have c636 := sf_ma tw603 (p := 18) rfl
                  have c637 := sf_ma tw603 (p := 83) rfl
                  have c638 := sf_ma tw603 (p := 19) rfl
                  have c639 := sf_ma tw603 (p := 84) rfl
                  have c640 := sf_ma tw603 (p := 20) rfl
                  have c641 := sf_ma tw603 (p := 85) rfl
                  have c642 := sf_ma tw603 (p := 24) rfl
                  have c643 := sf_ma tw603 (p := 86) rfl
                  have c644 := sf_ma tw603 (p := 25) rfl
                  have c645 := sf_ma tw603 (p := 87) rfl
                  have c646 := sf_ma tw603 (p := 23) rfl
                  have c647 := sf_ma tw603 (p := 88) rfl
                  have c648 := sf_ma tw603 (p := 26) rfl
                  have c649 := sf_ma tw603 (p := 89) rfl
                  have c650 := sf_ma tw603 (p := 27) rfl
                  have c651 := sf_ma tw603 (p := 90) rfl
                  have c652 := sf_ma tw603 (p := 36) rfl
                  have c653 := sf_ma tw603 (p := 102) rfl
                  have c654 := sf_ma tw603 (p := 37) rfl
                  have c655 := sf_ma tw603 (p := 103) rfl
                  have F1 := q604_0
                  refine sf_istore (L' := [(0, .inl (.ref 100000)), (1, .inl (.ref 0)), (2, .inl (.ref 71)), (3, .inl (.ref 130)), (4, .inl (.int x4))]) rfl ?_
                  refine sf_aload rfl ?_
                  refine sf_aload rfl ?_
                  refine sf_iload rfl ?_
                  refine sf_iconst sf_c1 (fun z656 ez656 => ?_)
                  refine sf_iadd (by omega) (fun v657 ev657 => ?_)
                  refine sf_sldk (x := x4) (k := 1) (by omega) (by omega) (by omega) ?_
                  clear ev657 ez656
                  refine sf_aload rfl ?_
                  refine sf_iload rfl ?_
                  refine sf_iconst sf_c2 (fun z658 ez658 => ?_)
                  refine sf_iadd (by omega) (fun v659 ev659 => ?_)
                  refine sf_sldk (x := x4) (k := 2) (by omega) (by omega) (by omega) ?_
                  clear ev659 ez658
                  refine sf_aload rfl ?_
                  refine sf_iload rfl ?_
                  refine sf_iconst sf_c3 (fun z660 ez660 => ?_)
                  refine sf_iadd (by omega) (fun v661 ev661 => ?_)
                  refine sf_sldk (x := x4) (k := 3) (by omega) (by omega) (by omega) ?_
                  clear ev661 ez660
                  refine sf_callv4 rfl (by omega) (by omega) ?_
                  refine sf_rv Iw603 rfl ?_
                  refine sc_M_rateFor Iw603  (fun v662 w663 Iw663 tw663 lv662 uv662 q664_0 => ?_)
                  rw [c616] at q664_0
                  rw [c629] at q664_0
                  rw [c631] at q664_0
                  rw [c639] at q664_0
                  rw [c641] at q664_0
                  rw [c606] at q664_0
                  rw [c610] at q664_0
                  have c665 := sf_mf tw663 (p := 1) (j := 0) rfl
                  have c666 := sf_mf tw663 (p := 71) (j := 1) rfl
                  have c667 := sf_mf tw663 (p := 1) (j := 5) rfl
                  have c668 := sf_mf tw663 (p := 71) (j := 5) rfl
                  have c669 := sf_mf tw663 (p := 13) (j := 1) rfl
                  have c670 := sf_mf tw663 (p := 71) (j := 10) rfl
                  have c671 := sf_mf tw663 (p := 21) (j := 1) rfl
                  have c672 := sf_mf tw663 (p := 71) (j := 18) rfl
                  have c673 := sf_mf tw663 (p := 35) (j := 0) rfl
                  have c674 := sf_mf tw663 (p := 71) (j := 35) rfl
                  have c675 := sf_ma tw663 (p := 3) rfl
                  have c676 := sf_ma tw663 (p := 72) rfl
                  have c677 := sf_mg tw663 (p := 10) rfl
                  have c678 := sf_ma tw663 (p := 93) rfl
                  have c679 := sf_mL tw663 (p := 130) rfl
                  have c680 := sf_ma tw663 (p := 2) rfl
                  have c681 := sf_ma tw663 (p := 6) rfl
                  have c682 := sf_ma tw663 (p := 75) rfl
                  have c683 := sf_ma tw663 (p := 7) rfl
                  have c684 := sf_ma tw663 (p := 76) rfl
                  have c685 := sf_ma tw663 (p := 8) rfl
                  have c686 := sf_ma tw663 (p := 77) rfl
                  have c687 := sf_ma tw663 (p := 9) rfl
                  have c688 := sf_ma tw663 (p := 78) rfl
                  have c689 := sf_ma tw663 (p := 14) rfl
                  have c690 := sf_ma tw663 (p := 79) rfl
                  have c691 := sf_ma tw663 (p := 15) rfl
                  have c692 := sf_ma tw663 (p := 80) rfl
                  have c693 := sf_ma tw663 (p := 16) rfl
                  have c694 := sf_ma tw663 (p := 81) rfl
                  have c695 := sf_ma tw663 (p := 17) rfl
                  have c696 := sf_ma tw663 (p := 82) rfl
                  have c697 := sf_ma tw663 (p := 18) rfl
                  have c698 := sf_ma tw663 (p := 83) rfl
                  have c699 := sf_ma tw663 (p := 19) rfl
                  have c700 := sf_ma tw663 (p := 84) rfl
                  have c701 := sf_ma tw663 (p := 20) rfl
                  have c702 := sf_ma tw663 (p := 85) rfl
                  have c703 := sf_ma tw663 (p := 24) rfl
                  have c704 := sf_ma tw663 (p := 86) rfl
                  have c705 := sf_ma tw663 (p := 25) rfl
                  have c706 := sf_ma tw663 (p := 87) rfl
                  have c707 := sf_ma tw663 (p := 23) rfl
                  have c708 := sf_ma tw663 (p := 88) rfl
                  have c709 := sf_ma tw663 (p := 26) rfl
                  have c710 := sf_ma tw663 (p := 89) rfl
                  have c711 := sf_ma tw663 (p := 27) rfl
                  have c712 := sf_ma tw663 (p := 90) rfl
                  have c713 := sf_ma tw663 (p := 36) rfl
                  have c714 := sf_ma tw663 (p := 102) rfl
                  have c715 := sf_ma tw663 (p := 37) rfl
                  have c716 := sf_ma tw663 (p := 103) rfl
                  have G1 := q664_0
                  have hE : 0 ≤ (xs (x4.toInt.toNat + 1)).toInt → (xs (x4.toInt.toNat + 1)).toInt < (sf_f w 71 1).toInt → sr_up (sf_a w 2) (sr_G (sf_a w 14) (sf_a w 15) (sf_a w 19) (sf_a w 20) (xs (x4.toInt.toNat + 2)).toInt (xs (x4.toInt.toNat + 3)).toInt (sf_f w 13 1).toInt.toNat) 6 (xs (x4.toInt.toNat + 1)).toInt = sr_up (sf_a w 72) (sr_G (sf_a w 79) (sf_a w 80) (sf_a w 84) (sf_a w 85) (xs (x4.toInt.toNat + 2)).toInt (xs (x4.toInt.toNat + 3)).toInt (sf_f w 71 10).toInt.toNat) ((xs (x4.toInt.toNat + 1)).toInt + 1).toNat (xs (x4.toInt.toNat + 1)).toInt := fun h1 h2 => sr_upE f_1 f_3 (fun i _ => sr_gE f_8 f_9 f_13 f_14 _ _ (by omega) i) 6 6 _ _ h2 (fun h3 => by have h4 := (f_1 (xs (x4.toInt.toNat + 1)).toInt.toNat (by omega)).2.2.2.1; omega) (Nat.le_refl _) (by omega)
                  refine sf_istore (L' := [(5, .inl (.int v602)), (0, .inl (.ref 100000)), (1, .inl (.ref 0)), (2, .inl (.ref 71)), (3, .inl (.ref 130)), (4, .inl (.int x4))]) rfl ?_
                  refine sf_aload rfl ?_
                  refine sf_callv1 rfl (by omega) (by omega) ?_
                  refine sf_rv Iw663 rfl ?_
                  refine sf_sp (L := [(0, .inl (.ref 71))]) rfl rfl ?_
                  refine sf_aload rfl ?_
                  refine sf_geti Iw663 rfl rfl (fun v717 lv717 uv717 ev717 => ?_)
                  refine sf_ireturn rfl rfl ?_
                  refine sf_iload rfl ?_
                  refine sf_f2_eq (fun h718 => ?_) (fun h718 => ?_)
                  · refine sf_iload rfl ?_
                    refine sf_f1_eq (fun h719 => ?_) (fun h719 => ?_)
                    · refine sf_aload rfl ?_
                      refine sf_iconst sf_c0 (fun z720 ez720 => ?_)
                      refine sf_lald Iw663 rfl (by omega) (fun v721 ev721 => ?_)
                      rw [c679] at ev721
                      rw [show z720.toInt.toNat = 0 by omega] at ev721
                      refine sf_iload rfl ?_
                      refine sf_i2l (fun v722 ev722 => ?_)
                      refine sf_fl_eq (fun h723 => ?_) (fun h723 => ?_)
                      · show kt_W_law_1421 N xs K _ _ _ _ _
                        refine sf_iinc (L' := [(6, .inl (.int v662)), (5, .inl (.int v602)), (0, .inl (.ref 100000)), (1, .inl (.ref 0)), (2, .inl (.ref 71)), (3, .inl (.ref 130))]) (x := x4) sf_c8 rfl rfl (by omega) (fun v724 ev724 => ?_)
                        refine sf_can (L' := [(0, .inl (.ref 100000)), (1, .inl (.ref 0)), (2, .inl (.ref 71)), (3, .inl (.ref 130)), (4, .inl (.int v724))]) rfl ?_
                        exact ih _ _ _ _ Iw663 (by omega) (by omega) (by omega) (by omega) (by rw [c665, c605]; rw [c666, c606]; rw [c667, c607]; rw [c668, c608]; rw [c669, c609]; rw [c670, c610]; rw [c671, c611]; rw [c672, c612]; rw [c673, c613]; rw [c674, c614]; omega) (by rw [c675, c615]; rw [c676, c616]; rw [c666, c606]; first | exact f_1 | exact hJ) (by rw [c677, c617]; rw [c678, c618]; first | exact f_2 | exact hK2) (by rw [c680, c619]; rw [c676, c616]; rw [c666, c606]; first | exact f_3 | exact hQ2) (by rw [c681, c620]; rw [c682, c621]; rw [c668, c608]; first | exact f_4 | exact hQ6) (by rw [c683, c622]; rw [c684, c623]; rw [c668, c608]; first | exact f_5 | exact hQ7) (by rw [c685, c624]; rw [c686, c625]; rw [c668, c608]; first | exact f_6 | exact hQ8) (by rw [c687, c626]; rw [c688, c627]; rw [c668, c608]; first | exact f_7 | exact hQ9) (by rw [c689, c628]; rw [c690, c629]; rw [c670, c610]; first | exact f_8 | exact hQ14) (by rw [c691, c630]; rw [c692, c631]; rw [c670, c610]; first | exact f_9 | exact hQ15) (by rw [c693, c632]; rw [c694, c633]; rw [c670, c610]; first | exact f_10 | exact hQ16) (by rw [c695, c634]; rw [c696, c635]; rw [c670, c610]; first | exact f_11 | exact hQ17) (by rw [c697, c636]; rw [c698, c637]; rw [c670, c610]; first | exact f_12 | exact hQ18) (by rw [c699, c638]; rw [c700, c639]; rw [c670, c610]; first | exact f_13 | exact hQ19) (by rw [c701, c640]; rw [c702, c641]; rw [c670, c610]; first | exact f_14 | exact hQ20) (by rw [c703, c642]; rw [c704, c643]; rw [c672, c612]; first | exact f_15 | exact hQ24) (by rw [c705, c644]; rw [c706, c645]; rw [c672, c612]; first | exact f_16 | exact hQ25) (by rw [c707, c646]; rw [c708, c647]; rw [c672, c612]; first | exact f_17 | exact hQ23) (by rw [c709, c648]; rw [c710, c649]; rw [c672, c612]; first | exact f_18 | exact hQ26) (by rw [c711, c650]; rw [c712, c651]; rw [c672, c612]; first | exact f_19 | exact hQ27) (by rw [c713, c652]; rw [c714, c653]; rw [c674, c614]; first | exact f_20 | exact hQ36) (by rw [c715, c654]; rw [c716, c655]; rw [c674, c614]; first | exact f_21 | exact hQ37) (by omega)
                      · refine sf_iconst sf_c0 (fun z725 ez725 => ?_)
                        exact sf_lend (by omega) (by omega) (by omega)
                    · show kt_W_law_1421 N xs K _ _ _ _ _
                      refine sf_iinc (L' := [(6, .inl (.int v662)), (5, .inl (.int v602)), (0, .inl (.ref 100000)), (1, .inl (.ref 0)), (2, .inl (.ref 71)), (3, .inl (.ref 130))]) (x := x4) sf_c8 rfl rfl (by omega) (fun v726 ev726 => ?_)
                      refine sf_can (L' := [(0, .inl (.ref 100000)), (1, .inl (.ref 0)), (2, .inl (.ref 71)), (3, .inl (.ref 130)), (4, .inl (.int v726))]) rfl ?_
                      exact ih _ _ _ _ Iw663 (by omega) (by omega) (by omega) (by omega) (by rw [c665, c605]; rw [c666, c606]; rw [c667, c607]; rw [c668, c608]; rw [c669, c609]; rw [c670, c610]; rw [c671, c611]; rw [c672, c612]; rw [c673, c613]; rw [c674, c614]; omega) (by rw [c675, c615]; rw [c676, c616]; rw [c666, c606]; first | exact f_1 | exact hJ) (by rw [c677, c617]; rw [c678, c618]; first | exact f_2 | exact hK2) (by rw [c680, c619]; rw [c676, c616]; rw [c666, c606]; first | exact f_3 | exact hQ2) (by rw [c681, c620]; rw [c682, c621]; rw [c668, c608]; first | exact f_4 | exact hQ6) (by rw [c683, c622]; rw [c684, c623]; rw [c668, c608]; first | exact f_5 | exact hQ7) (by rw [c685, c624]; rw [c686, c625]; rw [c668, c608]; first | exact f_6 | exact hQ8) (by rw [c687, c626]; rw [c688, c627]; rw [c668, c608]; first | exact f_7 | exact hQ9) (by rw [c689, c628]; rw [c690, c629]; rw [c670, c610]; first | exact f_8 | exact hQ14) (by rw [c691, c630]; rw [c692, c631]; rw [c670, c610]; first | exact f_9 | exact hQ15) (by rw [c693, c632]; rw [c694, c633]; rw [c670, c610]; first | exact f_10 | exact hQ16) (by rw [c695, c634]; rw [c696, c635]; rw [c670, c610]; first | exact f_11 | exact hQ17) (by rw [c697, c636]; rw [c698, c637]; rw [c670, c610]; first | exact f_12 | exact hQ18) (by rw [c699, c638]; rw [c700, c639]; rw [c670, c610]; first | exact f_13 | exact hQ19) (by rw [c701, c640]; rw [c702, c641]; rw [c670, c610]; first | exact f_14 | exact hQ20) (by rw [c703, c642]; rw [c704, c643]; rw [c672, c612]; first | exact f_15 | exact hQ24) (by rw [c705, c644]; rw [c706, c645]; rw [c672, c612]; first | exact f_16 | exact hQ25) (by rw [c707, c646]; rw [c708, c647]; rw [c672, c612]; first | exact f_17 | exact hQ23) (by rw [c709, c648]; rw [c710, c649]; rw [c672, c612]; first | exact f_18 | exact hQ26) (by rw [c711, c650]; rw [c712, c651]; rw [c672, c612]; first | exact f_19 | exact hQ27) (by rw [c713, c652]; rw [c714, c653]; rw [c674, c614]; first | exact f_20 | exact hQ36) (by rw [c715, c654]; rw [c716, c655]; rw [c674, c614]; first | exact f_21 | exact hQ37) (by omega)
                  · refine sf_iconst sf_c0 (fun z727 ez727 => ?_)
                    exact sf_lend (by omega) (by omega) (by omega)
                · clear h595
                  refine sf_sw1 sf_c6 (fun h728 => ?_) (fun h728 => ?_)
                  · refine sf_aload rfl ?_
                    refine sf_aload rfl ?_
                    refine sf_iload rfl ?_
                    refine sf_iconst sf_c1 (fun z729 ez729 => ?_)
                    refine sf_iadd (by omega) (fun v730 ev730 => ?_)
                    refine sf_sldk (x := x4) (k := 1) (by omega) (by omega) (by omega) ?_
                    clear ev730 ez729
                    refine sf_aload rfl ?_
                    refine sf_iload rfl ?_
                    refine sf_iconst sf_c2 (fun z731 ez731 => ?_)
                    refine sf_iadd (by omega) (fun v732 ev732 => ?_)
                    refine sf_sldk (x := x4) (k := 2) (by omega) (by omega) (by omega) ?_
                    clear ev732 ez731
                    refine sf_aload rfl ?_
                    refine sf_iload rfl ?_
                    refine sf_iconst sf_c3 (fun z733 ez733 => ?_)
                    refine sf_iadd (by omega) (fun v734 ev734 => ?_)
                    refine sf_sldk (x := x4) (k := 3) (by omega) (by omega) (by omega) ?_
                    clear ev734 ez733
                    refine sf_aload rfl ?_
                    refine sf_iload rfl ?_
                    refine sf_iconst sf_c4 (fun z735 ez735 => ?_)
                    refine sf_iadd (by omega) (fun v736 ev736 => ?_)
                    refine sf_sldk (x := x4) (k := 4) (by omega) (by omega) (by omega) ?_
                    clear ev736 ez735
                    refine sf_aload rfl ?_
                    refine sf_iload rfl ?_
                    refine sf_iconst sf_c5 (fun z737 ez737 => ?_)
                    refine sf_iadd (by omega) (fun v738 ev738 => ?_)
                    refine sf_sldk (x := x4) (k := 5) (by omega) (by omega) (by omega) ?_
                    clear ev738 ez737
                    refine sf_aload rfl ?_
                    refine sf_iload rfl ?_
                    refine sf_iconst sf_c6 (fun z739 ez739 => ?_)
                    refine sf_iadd (by omega) (fun v740 ev740 => ?_)
                    refine sf_sldk (x := x4) (k := 6) (by omega) (by omega) (by omega) ?_
                    clear ev740 ez739
                    refine sf_aload rfl ?_
                    refine sf_callv8 rfl (by omega) (by omega) ?_
                    refine sc_W_quota_0_130 I_w  (fun v741 w742 Iw742 tw742 lv741 uv741 q743_0 q743_1 q743_2 q743_3 q743_4 q743_5 => ?_)
                    have c744 := sf_mf tw742 (p := 1) (j := 0) rfl
                    have c745 := sf_mf tw742 (p := 71) (j := 1) rfl
                    have c746 := sf_mf tw742 (p := 1) (j := 5) rfl
                    have c747 := sf_mf tw742 (p := 71) (j := 5) rfl
                    have c748 := sf_mf tw742 (p := 13) (j := 1) rfl
                    have c749 := sf_mf tw742 (p := 71) (j := 10) rfl
                    have c750 := sf_mf tw742 (p := 71) (j := 18) rfl
                    have c751 := sf_mf tw742 (p := 35) (j := 0) rfl
                    have c752 := sf_mf tw742 (p := 71) (j := 35) rfl
                    have c753 := sf_ma tw742 (p := 3) rfl
                    have c754 := sf_ma tw742 (p := 72) rfl
                    have c755 := sf_mg tw742 (p := 10) rfl
                    have c756 := sf_ma tw742 (p := 93) rfl
                    have c757 := sf_ma tw742 (p := 2) rfl
                    have c758 := sf_ma tw742 (p := 6) rfl
                    have c759 := sf_ma tw742 (p := 75) rfl
                    have c760 := sf_ma tw742 (p := 7) rfl
                    have c761 := sf_ma tw742 (p := 76) rfl
                    have c762 := sf_ma tw742 (p := 8) rfl
                    have c763 := sf_ma tw742 (p := 77) rfl
                    have c764 := sf_ma tw742 (p := 9) rfl
                    have c765 := sf_ma tw742 (p := 78) rfl
                    have c766 := sf_ma tw742 (p := 14) rfl
                    have c767 := sf_ma tw742 (p := 79) rfl
                    have c768 := sf_ma tw742 (p := 15) rfl
                    have c769 := sf_ma tw742 (p := 80) rfl
                    have c770 := sf_ma tw742 (p := 16) rfl
                    have c771 := sf_ma tw742 (p := 81) rfl
                    have c772 := sf_ma tw742 (p := 17) rfl
                    have c773 := sf_ma tw742 (p := 82) rfl
                    have c774 := sf_ma tw742 (p := 18) rfl
                    have c775 := sf_ma tw742 (p := 83) rfl
                    have c776 := sf_ma tw742 (p := 19) rfl
                    have c777 := sf_ma tw742 (p := 84) rfl
                    have c778 := sf_ma tw742 (p := 20) rfl
                    have c779 := sf_ma tw742 (p := 85) rfl
                    have c780 := sf_ma tw742 (p := 86) rfl
                    have c781 := sf_ma tw742 (p := 87) rfl
                    have c782 := sf_ma tw742 (p := 88) rfl
                    have c783 := sf_ma tw742 (p := 89) rfl
                    have c784 := sf_ma tw742 (p := 90) rfl
                    have c785 := sf_ma tw742 (p := 36) rfl
                    have c786 := sf_ma tw742 (p := 102) rfl
                    have c787 := sf_ma tw742 (p := 37) rfl
                    have c788 := sf_ma tw742 (p := 103) rfl
                    have U24 := q743_1
                    have U25 := q743_2
                    have U23 := q743_3
                    have U26 := q743_4
                    have U27 := q743_5
                    clear q743_1 q743_2 q743_3 q743_4 q743_5
                    have F1 := q743_0
                    refine sf_istore (L' := [(0, .inl (.ref 100000)), (1, .inl (.ref 0)), (2, .inl (.ref 71)), (3, .inl (.ref 130)), (4, .inl (.int x4))]) rfl ?_
                    refine sf_aload rfl ?_
                    refine sf_aload rfl ?_
                    refine sf_iload rfl ?_
                    refine sf_iconst sf_c1 (fun z789 ez789 => ?_)
                    refine sf_iadd (by omega) (fun v790 ev790 => ?_)
                    refine sf_sldk (x := x4) (k := 1) (by omega) (by omega) (by omega) ?_
                    clear ev790 ez789
                    refine sf_aload rfl ?_
                    refine sf_iload rfl ?_
                    refine sf_iconst sf_c2 (fun z791 ez791 => ?_)
                    refine sf_iadd (by omega) (fun v792 ev792 => ?_)
                    refine sf_sldk (x := x4) (k := 2) (by omega) (by omega) (by omega) ?_
                    clear ev792 ez791
                    refine sf_aload rfl ?_
                    refine sf_iload rfl ?_
                    refine sf_iconst sf_c3 (fun z793 ez793 => ?_)
                    refine sf_iadd (by omega) (fun v794 ev794 => ?_)
                    refine sf_sldk (x := x4) (k := 3) (by omega) (by omega) (by omega) ?_
                    clear ev794 ez793
                    refine sf_aload rfl ?_
                    refine sf_iload rfl ?_
                    refine sf_iconst sf_c4 (fun z795 ez795 => ?_)
                    refine sf_iadd (by omega) (fun v796 ev796 => ?_)
                    refine sf_sldk (x := x4) (k := 4) (by omega) (by omega) (by omega) ?_
                    clear ev796 ez795
                    refine sf_aload rfl ?_
                    refine sf_iload rfl ?_
                    refine sf_iconst sf_c5 (fun z797 ez797 => ?_)
                    refine sf_iadd (by omega) (fun v798 ev798 => ?_)
                    refine sf_sldk (x := x4) (k := 5) (by omega) (by omega) (by omega) ?_
                    clear ev798 ez797
                    refine sf_aload rfl ?_
                    refine sf_iload rfl ?_
                    refine sf_iconst sf_c6 (fun z799 ez799 => ?_)
                    refine sf_iadd (by omega) (fun v800 ev800 => ?_)
                    refine sf_sldk (x := x4) (k := 6) (by omega) (by omega) (by omega) ?_
                    clear ev800 ez799
                    refine sf_callv7 rfl (by omega) (by omega) ?_
                    refine sf_rv Iw742 rfl ?_
                    refine sc_M_quota Iw742  (fun v801 w802 Iw802 tw802 lv801 uv801 q803_0 q803_1 q803_2 q803_3 q803_4 q803_5 => ?_)
                    rw [c745] at q803_0
                    rw [c750] at q803_0
                    rw [c780] at q803_1
                    rw [c750] at q803_1
                    rw [c781] at q803_2
                    rw [c750] at q803_2
                    rw [c782] at q803_3
                    rw [c750] at q803_3
                    rw [c783] at q803_4
                    rw [c750] at q803_4
                    rw [c784] at q803_5
                    rw [c750] at q803_5
                    have c804 := sf_mf tw802 (p := 1) (j := 0) rfl
                    have c805 := sf_mf tw802 (p := 71) (j := 1) rfl
                    have c806 := sf_mf tw802 (p := 1) (j := 5) rfl
                    have c807 := sf_mf tw802 (p := 71) (j := 5) rfl
                    have c808 := sf_mf tw802 (p := 13) (j := 1) rfl
                    have c809 := sf_mf tw802 (p := 71) (j := 10) rfl
                    have c810 := sf_mf tw802 (p := 21) (j := 1) rfl
                    have c811 := sf_mf tw802 (p := 35) (j := 0) rfl
                    have c812 := sf_mf tw802 (p := 71) (j := 35) rfl
                    have c813 := sf_ma tw802 (p := 3) rfl
                    have c814 := sf_ma tw802 (p := 72) rfl
                    have c815 := sf_mg tw802 (p := 10) rfl
                    have c816 := sf_ma tw802 (p := 93) rfl
                    have c817 := sf_mL tw802 (p := 130) rfl
                    have c818 := sf_ma tw802 (p := 2) rfl
                    have c819 := sf_ma tw802 (p := 6) rfl
                    have c820 := sf_ma tw802 (p := 75) rfl
                    have c821 := sf_ma tw802 (p := 7) rfl
                    have c822 := sf_ma tw802 (p := 76) rfl
                    have c823 := sf_ma tw802 (p := 8) rfl
                    have c824 := sf_ma tw802 (p := 77) rfl
                    have c825 := sf_ma tw802 (p := 9) rfl
                    have c826 := sf_ma tw802 (p := 78) rfl
                    have c827 := sf_ma tw802 (p := 14) rfl
                    have c828 := sf_ma tw802 (p := 79) rfl
                    have c829 := sf_ma tw802 (p := 15) rfl
                    have c830 := sf_ma tw802 (p := 80) rfl
                    have c831 := sf_ma tw802 (p := 16) rfl
                    have c832 := sf_ma tw802 (p := 81) rfl
                    have c833 := sf_ma tw802 (p := 17) rfl
                    have c834 := sf_ma tw802 (p := 82) rfl
                    have c835 := sf_ma tw802 (p := 18) rfl
                    have c836 := sf_ma tw802 (p := 83) rfl
                    have c837 := sf_ma tw802 (p := 19) rfl
                    have c838 := sf_ma tw802 (p := 84) rfl
                    have c839 := sf_ma tw802 (p := 20) rfl
                    have c840 := sf_ma tw802 (p := 85) rfl
                    have c841 := sf_ma tw802 (p := 24) rfl
                    have c842 := sf_ma tw802 (p := 25) rfl
                    have c843 := sf_ma tw802 (p := 23) rfl
                    have c844 := sf_ma tw802 (p := 26) rfl
                    have c845 := sf_ma tw802 (p := 27) rfl
                    have c846 := sf_ma tw802 (p := 36) rfl
                    have c847 := sf_ma tw802 (p := 102) rfl
                    have c848 := sf_ma tw802 (p := 37) rfl
                    have c849 := sf_ma tw802 (p := 103) rfl
                    have U86 := q803_1
                    have U87 := q803_2
                    have U88 := q803_3
                    have U89 := q803_4
                    have U90 := q803_5
                    clear q803_1 q803_2 q803_3 q803_4 q803_5
                    have G1 := q803_0
                    have hrc : v741.toInt = (sf_f w802 71 0).toInt := by omega
                    have hcn : (v741.toInt = 0 ∧ (sf_f w802 71 18).toInt = (sf_f w 71 18).toInt + 1) ∨ (v741.toInt ≠ 0 ∧ (sf_f w802 71 18).toInt = (sf_f w 71 18).toInt) := by omega
                    have hQ24 := sf_QH f_15 U24 U86 (by omega) hrc hcn
                    have hQ25 := sf_QH f_16 U25 U87 (by omega) hrc hcn
                    have hQ23 := sf_QH f_17 U23 U88 (by omega) hrc hcn
                    have hQ26 := sf_QH f_18 U26 U89 (by omega) hrc hcn
                    have hQ27 := sf_QH f_19 U27 U90 (by omega) hrc hcn
                    refine sf_istore (L' := [(5, .inl (.int v741)), (0, .inl (.ref 100000)), (1, .inl (.ref 0)), (2, .inl (.ref 71)), (3, .inl (.ref 130)), (4, .inl (.int x4))]) rfl ?_
                    show kt_W_law_1421 N xs K _ _ _ _ _
                    refine sf_iinc (L' := [(6, .inl (.int v801)), (5, .inl (.int v741)), (0, .inl (.ref 100000)), (1, .inl (.ref 0)), (2, .inl (.ref 71)), (3, .inl (.ref 130))]) (x := x4) sf_c8 rfl rfl (by omega) (fun v850 ev850 => ?_)
                    refine sf_can (L' := [(0, .inl (.ref 100000)), (1, .inl (.ref 0)), (2, .inl (.ref 71)), (3, .inl (.ref 130)), (4, .inl (.int v850))]) rfl ?_
                    exact ih _ _ _ _ Iw802 (by omega) (by omega) (by omega) (by omega) (by rw [c804, c744]; rw [c805, c745]; rw [c806, c746]; rw [c807, c747]; rw [c808, c748]; rw [c809, c749]; rw [c810]; rw [c811, c751]; rw [c812, c752]; omega) (by rw [c813, c753]; rw [c814, c754]; rw [c805, c745]; first | exact f_1 | exact hJ) (by rw [c815, c755]; rw [c816, c756]; first | exact f_2 | exact hK2) (by rw [c818, c757]; rw [c814, c754]; rw [c805, c745]; first | exact f_3 | exact hQ2) (by rw [c819, c758]; rw [c820, c759]; rw [c807, c747]; first | exact f_4 | exact hQ6) (by rw [c821, c760]; rw [c822, c761]; rw [c807, c747]; first | exact f_5 | exact hQ7) (by rw [c823, c762]; rw [c824, c763]; rw [c807, c747]; first | exact f_6 | exact hQ8) (by rw [c825, c764]; rw [c826, c765]; rw [c807, c747]; first | exact f_7 | exact hQ9) (by rw [c827, c766]; rw [c828, c767]; rw [c809, c749]; first | exact f_8 | exact hQ14) (by rw [c829, c768]; rw [c830, c769]; rw [c809, c749]; first | exact f_9 | exact hQ15) (by rw [c831, c770]; rw [c832, c771]; rw [c809, c749]; first | exact f_10 | exact hQ16) (by rw [c833, c772]; rw [c834, c773]; rw [c809, c749]; first | exact f_11 | exact hQ17) (by rw [c835, c774]; rw [c836, c775]; rw [c809, c749]; first | exact f_12 | exact hQ18) (by rw [c837, c776]; rw [c838, c777]; rw [c809, c749]; first | exact f_13 | exact hQ19) (by rw [c839, c778]; rw [c840, c779]; rw [c809, c749]; first | exact f_14 | exact hQ20) (by rw [c841]; first | exact f_15 | exact hQ24) (by rw [c842]; first | exact f_16 | exact hQ25) (by rw [c843]; first | exact f_17 | exact hQ23) (by rw [c844]; first | exact f_18 | exact hQ26) (by rw [c845]; first | exact f_19 | exact hQ27) (by rw [c846, c785]; rw [c847, c786]; rw [c812, c752]; first | exact f_20 | exact hQ36) (by rw [c848, c787]; rw [c849, c788]; rw [c812, c752]; first | exact f_21 | exact hQ37) (by omega)
                  · clear h728
                    refine sf_sw1 sf_c7 (fun h851 => ?_) (fun h851 => ?_)
                    · refine sf_aload rfl ?_
                      refine sf_aload rfl ?_
                      refine sf_iload rfl ?_
                      refine sf_iconst sf_c1 (fun z852 ez852 => ?_)
                      refine sf_iadd (by omega) (fun v853 ev853 => ?_)
                      refine sf_sldk (x := x4) (k := 1) (by omega) (by omega) (by omega) ?_
                      clear ev853 ez852
                      refine sf_aload rfl ?_
                      refine sf_callv3 rfl (by omega) (by omega) ?_
                      refine sc_W_quotaLeft_0_130 I_w  (fun v854 w855 Iw855 tw855 lv854 uv854 => ?_)
                      have c857 := sf_mf tw855 (p := 1) (j := 0) rfl
                      have c858 := sf_mf tw855 (p := 71) (j := 1) rfl
                      have c859 := sf_mf tw855 (p := 1) (j := 5) rfl
                      have c860 := sf_mf tw855 (p := 71) (j := 5) rfl
                      have c861 := sf_mf tw855 (p := 13) (j := 1) rfl
                      have c862 := sf_mf tw855 (p := 71) (j := 10) rfl
                      have c863 := sf_mf tw855 (p := 21) (j := 1) rfl
                      have c864 := sf_mf tw855 (p := 71) (j := 18) rfl
                      have c865 := sf_mf tw855 (p := 35) (j := 0) rfl
                      have c866 := sf_mf tw855 (p := 71) (j := 35) rfl
                      have c867 := sf_ma tw855 (p := 3) rfl
                      have c868 := sf_ma tw855 (p := 72) rfl
                      have c869 := sf_mg tw855 (p := 10) rfl
                      have c870 := sf_ma tw855 (p := 93) rfl
                      have c871 := sf_ma tw855 (p := 2) rfl
                      have c872 := sf_ma tw855 (p := 6) rfl
                      have c873 := sf_ma tw855 (p := 75) rfl
                      have c874 := sf_ma tw855 (p := 7) rfl
                      have c875 := sf_ma tw855 (p := 76) rfl
                      have c876 := sf_ma tw855 (p := 8) rfl
                      have c877 := sf_ma tw855 (p := 77) rfl
                      have c878 := sf_ma tw855 (p := 9) rfl
                      have c879 := sf_ma tw855 (p := 78) rfl
                      have c880 := sf_ma tw855 (p := 14) rfl
                      have c881 := sf_ma tw855 (p := 79) rfl
                      have c882 := sf_ma tw855 (p := 15) rfl
                      have c883 := sf_ma tw855 (p := 80) rfl
                      have c884 := sf_ma tw855 (p := 16) rfl
                      have c885 := sf_ma tw855 (p := 81) rfl
                      have c886 := sf_ma tw855 (p := 17) rfl
                      have c887 := sf_ma tw855 (p := 82) rfl
                      have c888 := sf_ma tw855 (p := 18) rfl
                      have c889 := sf_ma tw855 (p := 83) rfl
                      have c890 := sf_ma tw855 (p := 19) rfl
                      have c891 := sf_ma tw855 (p := 84) rfl
                      have c892 := sf_ma tw855 (p := 20) rfl
                      have c893 := sf_ma tw855 (p := 85) rfl
                      have c894 := sf_ma tw855 (p := 24) rfl
                      have c895 := sf_ma tw855 (p := 86) rfl
                      have c896 := sf_ma tw855 (p := 25) rfl
                      have c897 := sf_ma tw855 (p := 87) rfl
                      have c898 := sf_ma tw855 (p := 23) rfl
                      have c899 := sf_ma tw855 (p := 88) rfl
                      have c900 := sf_ma tw855 (p := 26) rfl
                      have c901 := sf_ma tw855 (p := 89) rfl
                      have c902 := sf_ma tw855 (p := 27) rfl
                      have c903 := sf_ma tw855 (p := 90) rfl
                      have c904 := sf_ma tw855 (p := 36) rfl
                      have c905 := sf_ma tw855 (p := 102) rfl
                      have c906 := sf_ma tw855 (p := 37) rfl
                      have c907 := sf_ma tw855 (p := 103) rfl
                      refine sf_istore (L' := [(0, .inl (.ref 100000)), (1, .inl (.ref 0)), (2, .inl (.ref 71)), (3, .inl (.ref 130)), (4, .inl (.int x4))]) rfl ?_
                      refine sf_aload rfl ?_
                      refine sf_aload rfl ?_
                      refine sf_iload rfl ?_
                      refine sf_iconst sf_c1 (fun z908 ez908 => ?_)
                      refine sf_iadd (by omega) (fun v909 ev909 => ?_)
                      refine sf_sldk (x := x4) (k := 1) (by omega) (by omega) (by omega) ?_
                      clear ev909 ez908
                      refine sf_callv2 rfl (by omega) (by omega) ?_
                      refine sf_rv Iw855 rfl ?_
                      refine sc_M_quotaLeft Iw855  (fun v910 w911 Iw911 tw911 => ?_)
                      have c913 := sf_mf tw911 (p := 1) (j := 0) rfl
                      have c914 := sf_mf tw911 (p := 71) (j := 1) rfl
                      have c915 := sf_mf tw911 (p := 1) (j := 5) rfl
                      have c916 := sf_mf tw911 (p := 71) (j := 5) rfl
                      have c917 := sf_mf tw911 (p := 13) (j := 1) rfl
                      have c918 := sf_mf tw911 (p := 71) (j := 10) rfl
                      have c919 := sf_mf tw911 (p := 21) (j := 1) rfl
                      have c920 := sf_mf tw911 (p := 71) (j := 18) rfl
                      have c921 := sf_mf tw911 (p := 35) (j := 0) rfl
                      have c922 := sf_mf tw911 (p := 71) (j := 35) rfl
                      have c923 := sf_ma tw911 (p := 3) rfl
                      have c924 := sf_ma tw911 (p := 72) rfl
                      have c925 := sf_mg tw911 (p := 10) rfl
                      have c926 := sf_ma tw911 (p := 93) rfl
                      have c927 := sf_mL tw911 (p := 130) rfl
                      have c928 := sf_ma tw911 (p := 2) rfl
                      have c929 := sf_ma tw911 (p := 6) rfl
                      have c930 := sf_ma tw911 (p := 75) rfl
                      have c931 := sf_ma tw911 (p := 7) rfl
                      have c932 := sf_ma tw911 (p := 76) rfl
                      have c933 := sf_ma tw911 (p := 8) rfl
                      have c934 := sf_ma tw911 (p := 77) rfl
                      have c935 := sf_ma tw911 (p := 9) rfl
                      have c936 := sf_ma tw911 (p := 78) rfl
                      have c937 := sf_ma tw911 (p := 14) rfl
                      have c938 := sf_ma tw911 (p := 79) rfl
                      have c939 := sf_ma tw911 (p := 15) rfl
                      have c940 := sf_ma tw911 (p := 80) rfl
                      have c941 := sf_ma tw911 (p := 16) rfl
                      have c942 := sf_ma tw911 (p := 81) rfl
                      have c943 := sf_ma tw911 (p := 17) rfl
                      have c944 := sf_ma tw911 (p := 82) rfl
                      have c945 := sf_ma tw911 (p := 18) rfl
                      have c946 := sf_ma tw911 (p := 83) rfl
                      have c947 := sf_ma tw911 (p := 19) rfl
                      have c948 := sf_ma tw911 (p := 84) rfl
                      have c949 := sf_ma tw911 (p := 20) rfl
                      have c950 := sf_ma tw911 (p := 85) rfl
                      have c951 := sf_ma tw911 (p := 24) rfl
                      have c952 := sf_ma tw911 (p := 86) rfl
                      have c953 := sf_ma tw911 (p := 25) rfl
                      have c954 := sf_ma tw911 (p := 87) rfl
                      have c955 := sf_ma tw911 (p := 23) rfl
                      have c956 := sf_ma tw911 (p := 88) rfl
                      have c957 := sf_ma tw911 (p := 26) rfl
                      have c958 := sf_ma tw911 (p := 89) rfl
                      have c959 := sf_ma tw911 (p := 27) rfl
                      have c960 := sf_ma tw911 (p := 90) rfl
                      have c961 := sf_ma tw911 (p := 36) rfl
                      have c962 := sf_ma tw911 (p := 102) rfl
                      have c963 := sf_ma tw911 (p := 37) rfl
                      have c964 := sf_ma tw911 (p := 103) rfl
                      refine sf_istore (L' := [(5, .inl (.int v854)), (0, .inl (.ref 100000)), (1, .inl (.ref 0)), (2, .inl (.ref 71)), (3, .inl (.ref 130)), (4, .inl (.int x4))]) rfl ?_
                      show kt_W_law_1421 N xs K _ _ _ _ _
                      refine sf_iinc (L' := [(6, .inl (.int v910)), (5, .inl (.int v854)), (0, .inl (.ref 100000)), (1, .inl (.ref 0)), (2, .inl (.ref 71)), (3, .inl (.ref 130))]) (x := x4) sf_c8 rfl rfl (by omega) (fun v965 ev965 => ?_)
                      refine sf_can (L' := [(0, .inl (.ref 100000)), (1, .inl (.ref 0)), (2, .inl (.ref 71)), (3, .inl (.ref 130)), (4, .inl (.int v965))]) rfl ?_
                      exact ih _ _ _ _ Iw911 (by omega) (by omega) (by omega) (by omega) (by rw [c913, c857]; rw [c914, c858]; rw [c915, c859]; rw [c916, c860]; rw [c917, c861]; rw [c918, c862]; rw [c919, c863]; rw [c920, c864]; rw [c921, c865]; rw [c922, c866]; omega) (by rw [c923, c867]; rw [c924, c868]; rw [c914, c858]; first | exact f_1 | exact hJ) (by rw [c925, c869]; rw [c926, c870]; first | exact f_2 | exact hK2) (by rw [c928, c871]; rw [c924, c868]; rw [c914, c858]; first | exact f_3 | exact hQ2) (by rw [c929, c872]; rw [c930, c873]; rw [c916, c860]; first | exact f_4 | exact hQ6) (by rw [c931, c874]; rw [c932, c875]; rw [c916, c860]; first | exact f_5 | exact hQ7) (by rw [c933, c876]; rw [c934, c877]; rw [c916, c860]; first | exact f_6 | exact hQ8) (by rw [c935, c878]; rw [c936, c879]; rw [c916, c860]; first | exact f_7 | exact hQ9) (by rw [c937, c880]; rw [c938, c881]; rw [c918, c862]; first | exact f_8 | exact hQ14) (by rw [c939, c882]; rw [c940, c883]; rw [c918, c862]; first | exact f_9 | exact hQ15) (by rw [c941, c884]; rw [c942, c885]; rw [c918, c862]; first | exact f_10 | exact hQ16) (by rw [c943, c886]; rw [c944, c887]; rw [c918, c862]; first | exact f_11 | exact hQ17) (by rw [c945, c888]; rw [c946, c889]; rw [c918, c862]; first | exact f_12 | exact hQ18) (by rw [c947, c890]; rw [c948, c891]; rw [c918, c862]; first | exact f_13 | exact hQ19) (by rw [c949, c892]; rw [c950, c893]; rw [c918, c862]; first | exact f_14 | exact hQ20) (by rw [c951, c894]; rw [c952, c895]; rw [c920, c864]; first | exact f_15 | exact hQ24) (by rw [c953, c896]; rw [c954, c897]; rw [c920, c864]; first | exact f_16 | exact hQ25) (by rw [c955, c898]; rw [c956, c899]; rw [c920, c864]; first | exact f_17 | exact hQ23) (by rw [c957, c900]; rw [c958, c901]; rw [c920, c864]; first | exact f_18 | exact hQ26) (by rw [c959, c902]; rw [c960, c903]; rw [c920, c864]; first | exact f_19 | exact hQ27) (by rw [c961, c904]; rw [c962, c905]; rw [c922, c866]; first | exact f_20 | exact hQ36) (by rw [c963, c906]; rw [c964, c907]; rw [c922, c866]; first | exact f_21 | exact hQ37) (by omega)
                    · clear h851
                      refine sf_sw1 sf_c8 (fun h966 => ?_) (fun h966 => ?_)
                      · refine sf_aload rfl ?_
                        refine sf_aload rfl ?_
                        refine sf_iload rfl ?_
                        refine sf_iconst sf_c1 (fun z967 ez967 => ?_)
                        refine sf_iadd (by omega) (fun v968 ev968 => ?_)
                        refine sf_sldk (x := x4) (k := 1) (by omega) (by omega) (by omega) ?_
                        clear ev968 ez967
                        refine sf_aload rfl ?_
                        refine sf_iload rfl ?_
                        refine sf_iconst sf_c2 (fun z969 ez969 => ?_)
                        refine sf_iadd (by omega) (fun v970 ev970 => ?_)
                        refine sf_sldk (x := x4) (k := 2) (by omega) (by omega) (by omega) ?_
                        clear ev970 ez969
                        refine sf_aload rfl ?_
                        refine sf_iload rfl ?_
                        refine sf_iconst sf_c3 (fun z971 ez971 => ?_)
                        refine sf_iadd (by omega) (fun v972 ev972 => ?_)
                        refine sf_sldk (x := x4) (k := 3) (by omega) (by omega) (by omega) ?_
                        clear ev972 ez971
                        refine sf_aload rfl ?_
                        refine sf_iload rfl ?_
                        refine sf_iconst sf_c4 (fun z973 ez973 => ?_)
                        refine sf_iadd (by omega) (fun v974 ev974 => ?_)
                        refine sf_sldk (x := x4) (k := 4) (by omega) (by omega) (by omega) ?_
                        clear ev974 ez973
                        refine sf_aload rfl ?_
                        refine sf_callv6 rfl (by omega) (by omega) ?_
                        refine sc_W_part_0_130 I_w  (fun v975 w976 Iw976 tw976 lv975 uv975 => ?_)
                        have c978 := sf_mf tw976 (p := 1) (j := 0) rfl
                        have c979 := sf_mf tw976 (p := 71) (j := 1) rfl
                        have c980 := sf_mf tw976 (p := 1) (j := 5) rfl
                        have c981 := sf_mf tw976 (p := 71) (j := 5) rfl
                        have c982 := sf_mf tw976 (p := 13) (j := 1) rfl
                        have c983 := sf_mf tw976 (p := 71) (j := 10) rfl
                        have c984 := sf_mf tw976 (p := 21) (j := 1) rfl
                        have c985 := sf_mf tw976 (p := 71) (j := 18) rfl
                        have c986 := sf_mf tw976 (p := 35) (j := 0) rfl
                        have c987 := sf_mf tw976 (p := 71) (j := 35) rfl
                        have c988 := sf_ma tw976 (p := 3) rfl
                        have c989 := sf_ma tw976 (p := 72) rfl
                        have c990 := sf_mg tw976 (p := 10) rfl
                        have c991 := sf_ma tw976 (p := 93) rfl
                        have c992 := sf_ma tw976 (p := 2) rfl
                        have c993 := sf_ma tw976 (p := 6) rfl
                        have c994 := sf_ma tw976 (p := 75) rfl
                        have c995 := sf_ma tw976 (p := 7) rfl
                        have c996 := sf_ma tw976 (p := 76) rfl
                        have c997 := sf_ma tw976 (p := 8) rfl
                        have c998 := sf_ma tw976 (p := 77) rfl
                        have c999 := sf_ma tw976 (p := 9) rfl
                        have c1000 := sf_ma tw976 (p := 78) rfl
                        have c1001 := sf_ma tw976 (p := 14) rfl
                        have c1002 := sf_ma tw976 (p := 79) rfl
                        have c1003 := sf_ma tw976 (p := 15) rfl
                        have c1004 := sf_ma tw976 (p := 80) rfl
                        have c1005 := sf_ma tw976 (p := 16) rfl
                        have c1006 := sf_ma tw976 (p := 81) rfl
                        have c1007 := sf_ma tw976 (p := 17) rfl
                        have c1008 := sf_ma tw976 (p := 82) rfl
                        have c1009 := sf_ma tw976 (p := 18) rfl
                        have c1010 := sf_ma tw976 (p := 83) rfl
                        have c1011 := sf_ma tw976 (p := 19) rfl
                        have c1012 := sf_ma tw976 (p := 84) rfl
                        have c1013 := sf_ma tw976 (p := 20) rfl
                        have c1014 := sf_ma tw976 (p := 85) rfl
                        have c1015 := sf_ma tw976 (p := 24) rfl
                        have c1016 := sf_ma tw976 (p := 86) rfl
                        have c1017 := sf_ma tw976 (p := 25) rfl
                        have c1018 := sf_ma tw976 (p := 87) rfl
                        have c1019 := sf_ma tw976 (p := 23) rfl
                        have c1020 := sf_ma tw976 (p := 88) rfl
                        have c1021 := sf_ma tw976 (p := 26) rfl
                        have c1022 := sf_ma tw976 (p := 89) rfl
                        have c1023 := sf_ma tw976 (p := 27) rfl
                        have c1024 := sf_ma tw976 (p := 90) rfl
                        have c1025 := sf_ma tw976 (p := 36) rfl
                        have c1026 := sf_ma tw976 (p := 102) rfl
                        have c1027 := sf_ma tw976 (p := 37) rfl
                        have c1028 := sf_ma tw976 (p := 103) rfl
                        refine sf_istore (L' := [(0, .inl (.ref 100000)), (1, .inl (.ref 0)), (2, .inl (.ref 71)), (3, .inl (.ref 130)), (4, .inl (.int x4))]) rfl ?_
                        refine sf_aload rfl ?_
                        refine sf_aload rfl ?_
                        refine sf_iload rfl ?_
                        refine sf_iconst sf_c1 (fun z1029 ez1029 => ?_)
                        refine sf_iadd (by omega) (fun v1030 ev1030 => ?_)
                        refine sf_sldk (x := x4) (k := 1) (by omega) (by omega) (by omega) ?_
                        clear ev1030 ez1029
                        refine sf_aload rfl ?_
                        refine sf_iload rfl ?_
                        refine sf_iconst sf_c2 (fun z1031 ez1031 => ?_)
                        refine sf_iadd (by omega) (fun v1032 ev1032 => ?_)
                        refine sf_sldk (x := x4) (k := 2) (by omega) (by omega) (by omega) ?_
                        clear ev1032 ez1031
                        refine sf_aload rfl ?_
                        refine sf_iload rfl ?_
                        refine sf_iconst sf_c3 (fun z1033 ez1033 => ?_)
                        refine sf_iadd (by omega) (fun v1034 ev1034 => ?_)
                        refine sf_sldk (x := x4) (k := 3) (by omega) (by omega) (by omega) ?_
                        clear ev1034 ez1033
                        refine sf_aload rfl ?_
                        refine sf_iload rfl ?_
                        refine sf_iconst sf_c4 (fun z1035 ez1035 => ?_)
                        refine sf_iadd (by omega) (fun v1036 ev1036 => ?_)
                        refine sf_sldk (x := x4) (k := 4) (by omega) (by omega) (by omega) ?_
                        clear ev1036 ez1035
                        refine sf_callv5 rfl (by omega) (by omega) ?_
                        refine sf_rv Iw976 rfl ?_
                        refine sc_M_part Iw976  (fun v1037 w1038 Iw1038 tw1038 lv1037 uv1037 => ?_)
                        have c1040 := sf_mf tw1038 (p := 1) (j := 0) rfl
                        have c1041 := sf_mf tw1038 (p := 71) (j := 1) rfl
                        have c1042 := sf_mf tw1038 (p := 1) (j := 5) rfl
                        have c1043 := sf_mf tw1038 (p := 71) (j := 5) rfl
                        have c1044 := sf_mf tw1038 (p := 13) (j := 1) rfl
                        have c1045 := sf_mf tw1038 (p := 71) (j := 10) rfl
                        have c1046 := sf_mf tw1038 (p := 21) (j := 1) rfl
                        have c1047 := sf_mf tw1038 (p := 71) (j := 18) rfl
                        have c1048 := sf_mf tw1038 (p := 35) (j := 0) rfl
                        have c1049 := sf_mf tw1038 (p := 71) (j := 35) rfl
                        have c1050 := sf_ma tw1038 (p := 3) rfl
                        have c1051 := sf_ma tw1038 (p := 72) rfl
                        have c1052 := sf_mg tw1038 (p := 10) rfl
                        have c1053 := sf_ma tw1038 (p := 93) rfl
                        have c1054 := sf_mL tw1038 (p := 130) rfl
                        have c1055 := sf_ma tw1038 (p := 2) rfl
                        have c1056 := sf_ma tw1038 (p := 6) rfl
                        have c1057 := sf_ma tw1038 (p := 75) rfl
                        have c1058 := sf_ma tw1038 (p := 7) rfl
                        have c1059 := sf_ma tw1038 (p := 76) rfl
                        have c1060 := sf_ma tw1038 (p := 8) rfl
                        have c1061 := sf_ma tw1038 (p := 77) rfl
                        have c1062 := sf_ma tw1038 (p := 9) rfl
                        have c1063 := sf_ma tw1038 (p := 78) rfl
                        have c1064 := sf_ma tw1038 (p := 14) rfl
                        have c1065 := sf_ma tw1038 (p := 79) rfl
                        have c1066 := sf_ma tw1038 (p := 15) rfl
                        have c1067 := sf_ma tw1038 (p := 80) rfl
                        have c1068 := sf_ma tw1038 (p := 16) rfl
                        have c1069 := sf_ma tw1038 (p := 81) rfl
                        have c1070 := sf_ma tw1038 (p := 17) rfl
                        have c1071 := sf_ma tw1038 (p := 82) rfl
                        have c1072 := sf_ma tw1038 (p := 18) rfl
                        have c1073 := sf_ma tw1038 (p := 83) rfl
                        have c1074 := sf_ma tw1038 (p := 19) rfl
                        have c1075 := sf_ma tw1038 (p := 84) rfl
                        have c1076 := sf_ma tw1038 (p := 20) rfl
                        have c1077 := sf_ma tw1038 (p := 85) rfl
                        have c1078 := sf_ma tw1038 (p := 24) rfl
                        have c1079 := sf_ma tw1038 (p := 86) rfl
                        have c1080 := sf_ma tw1038 (p := 25) rfl
                        have c1081 := sf_ma tw1038 (p := 87) rfl
                        have c1082 := sf_ma tw1038 (p := 23) rfl
                        have c1083 := sf_ma tw1038 (p := 88) rfl
                        have c1084 := sf_ma tw1038 (p := 26) rfl
                        have c1085 := sf_ma tw1038 (p := 89) rfl
                        have c1086 := sf_ma tw1038 (p := 27) rfl
                        have c1087 := sf_ma tw1038 (p := 90) rfl
                        have c1088 := sf_ma tw1038 (p := 36) rfl
                        have c1089 := sf_ma tw1038 (p := 102) rfl
                        have c1090 := sf_ma tw1038 (p := 37) rfl
                        have c1091 := sf_ma tw1038 (p := 103) rfl
                        refine sf_istore (L' := [(5, .inl (.int v975)), (0, .inl (.ref 100000)), (1, .inl (.ref 0)), (2, .inl (.ref 71)), (3, .inl (.ref 130)), (4, .inl (.int x4))]) rfl ?_
                        show kt_W_law_1421 N xs K _ _ _ _ _
                        refine sf_iinc (L' := [(6, .inl (.int v1037)), (5, .inl (.int v975)), (0, .inl (.ref 100000)), (1, .inl (.ref 0)), (2, .inl (.ref 71)), (3, .inl (.ref 130))]) (x := x4) sf_c8 rfl rfl (by omega) (fun v1092 ev1092 => ?_)
                        refine sf_can (L' := [(0, .inl (.ref 100000)), (1, .inl (.ref 0)), (2, .inl (.ref 71)), (3, .inl (.ref 130)), (4, .inl (.int v1092))]) rfl ?_
                        exact ih _ _ _ _ Iw1038 (by omega) (by omega) (by omega) (by omega) (by rw [c1040, c978]; rw [c1041, c979]; rw [c1042, c980]; rw [c1043, c981]; rw [c1044, c982]; rw [c1045, c983]; rw [c1046, c984]; rw [c1047, c985]; rw [c1048, c986]; rw [c1049, c987]; omega) (by rw [c1050, c988]; rw [c1051, c989]; rw [c1041, c979]; first | exact f_1 | exact hJ) (by rw [c1052, c990]; rw [c1053, c991]; first | exact f_2 | exact hK2) (by rw [c1055, c992]; rw [c1051, c989]; rw [c1041, c979]; first | exact f_3 | exact hQ2) (by rw [c1056, c993]; rw [c1057, c994]; rw [c1043, c981]; first | exact f_4 | exact hQ6) (by rw [c1058, c995]; rw [c1059, c996]; rw [c1043, c981]; first | exact f_5 | exact hQ7) (by rw [c1060, c997]; rw [c1061, c998]; rw [c1043, c981]; first | exact f_6 | exact hQ8) (by rw [c1062, c999]; rw [c1063, c1000]; rw [c1043, c981]; first | exact f_7 | exact hQ9) (by rw [c1064, c1001]; rw [c1065, c1002]; rw [c1045, c983]; first | exact f_8 | exact hQ14) (by rw [c1066, c1003]; rw [c1067, c1004]; rw [c1045, c983]; first | exact f_9 | exact hQ15) (by rw [c1068, c1005]; rw [c1069, c1006]; rw [c1045, c983]; first | exact f_10 | exact hQ16) (by rw [c1070, c1007]; rw [c1071, c1008]; rw [c1045, c983]; first | exact f_11 | exact hQ17) (by rw [c1072, c1009]; rw [c1073, c1010]; rw [c1045, c983]; first | exact f_12 | exact hQ18) (by rw [c1074, c1011]; rw [c1075, c1012]; rw [c1045, c983]; first | exact f_13 | exact hQ19) (by rw [c1076, c1013]; rw [c1077, c1014]; rw [c1045, c983]; first | exact f_14 | exact hQ20) (by rw [c1078, c1015]; rw [c1079, c1016]; rw [c1047, c985]; first | exact f_15 | exact hQ24) (by rw [c1080, c1017]; rw [c1081, c1018]; rw [c1047, c985]; first | exact f_16 | exact hQ25) (by rw [c1082, c1019]; rw [c1083, c1020]; rw [c1047, c985]; first | exact f_17 | exact hQ23) (by rw [c1084, c1021]; rw [c1085, c1022]; rw [c1047, c985]; first | exact f_18 | exact hQ26) (by rw [c1086, c1023]; rw [c1087, c1024]; rw [c1047, c985]; first | exact f_19 | exact hQ27) (by rw [c1088, c1025]; rw [c1089, c1026]; rw [c1049, c987]; first | exact f_20 | exact hQ36) (by rw [c1090, c1027]; rw [c1091, c1028]; rw [c1049, c987]; first | exact f_21 | exact hQ37) (by omega)
                      · clear h966
                        refine sf_sw1 sf_c9 (fun h1093 => ?_) (fun h1093 => ?_)
                        · refine sf_aload rfl ?_
                          refine sf_aload rfl ?_
                          refine sf_iload rfl ?_
                          refine sf_iconst sf_c1 (fun z1094 ez1094 => ?_)
                          refine sf_iadd (by omega) (fun v1095 ev1095 => ?_)
                          refine sf_sldk (x := x4) (k := 1) (by omega) (by omega) (by omega) ?_
                          clear ev1095 ez1094
                          refine sf_aload rfl ?_
                          refine sf_iload rfl ?_
                          refine sf_iconst sf_c2 (fun z1096 ez1096 => ?_)
                          refine sf_iadd (by omega) (fun v1097 ev1097 => ?_)
                          refine sf_sldk (x := x4) (k := 2) (by omega) (by omega) (by omega) ?_
                          clear ev1097 ez1096
                          refine sf_callv3 rfl (by omega) (by omega) ?_
                          refine sc_W_zone_0 I_w  (fun v1098 w1099 Iw1099 tw1099 lv1098 uv1098 q1100_0 => ?_)
                          have c1101 := sf_mf tw1099 (p := 1) (j := 0) rfl
                          have c1102 := sf_mf tw1099 (p := 71) (j := 1) rfl
                          have c1103 := sf_mf tw1099 (p := 1) (j := 5) rfl
                          have c1104 := sf_mf tw1099 (p := 71) (j := 5) rfl
                          have c1105 := sf_mf tw1099 (p := 13) (j := 1) rfl
                          have c1106 := sf_mf tw1099 (p := 71) (j := 10) rfl
                          have c1107 := sf_mf tw1099 (p := 21) (j := 1) rfl
                          have c1108 := sf_mf tw1099 (p := 71) (j := 18) rfl
                          have c1109 := sf_mf tw1099 (p := 35) (j := 0) rfl
                          have c1110 := sf_mf tw1099 (p := 71) (j := 35) rfl
                          have c1111 := sf_ma tw1099 (p := 3) rfl
                          have c1112 := sf_ma tw1099 (p := 72) rfl
                          have c1113 := sf_mg tw1099 (p := 10) rfl
                          have c1114 := sf_ma tw1099 (p := 93) rfl
                          have c1115 := sf_mL tw1099 (p := 130) rfl
                          have c1116 := sf_ma tw1099 (p := 2) rfl
                          have c1117 := sf_ma tw1099 (p := 6) rfl
                          have c1118 := sf_ma tw1099 (p := 75) rfl
                          have c1119 := sf_ma tw1099 (p := 7) rfl
                          have c1120 := sf_ma tw1099 (p := 76) rfl
                          have c1121 := sf_ma tw1099 (p := 8) rfl
                          have c1122 := sf_ma tw1099 (p := 77) rfl
                          have c1123 := sf_ma tw1099 (p := 9) rfl
                          have c1124 := sf_ma tw1099 (p := 78) rfl
                          have c1125 := sf_ma tw1099 (p := 14) rfl
                          have c1126 := sf_ma tw1099 (p := 79) rfl
                          have c1127 := sf_ma tw1099 (p := 15) rfl
                          have c1128 := sf_ma tw1099 (p := 80) rfl
                          have c1129 := sf_ma tw1099 (p := 16) rfl
                          have c1130 := sf_ma tw1099 (p := 81) rfl
                          have c1131 := sf_ma tw1099 (p := 17) rfl
                          have c1132 := sf_ma tw1099 (p := 82) rfl
                          have c1133 := sf_ma tw1099 (p := 18) rfl
                          have c1134 := sf_ma tw1099 (p := 83) rfl
                          have c1135 := sf_ma tw1099 (p := 19) rfl
                          have c1136 := sf_ma tw1099 (p := 84) rfl
                          have c1137 := sf_ma tw1099 (p := 20) rfl
                          have c1138 := sf_ma tw1099 (p := 85) rfl
                          have c1139 := sf_ma tw1099 (p := 24) rfl
                          have c1140 := sf_ma tw1099 (p := 86) rfl
                          have c1141 := sf_ma tw1099 (p := 25) rfl
                          have c1142 := sf_ma tw1099 (p := 87) rfl
                          have c1143 := sf_ma tw1099 (p := 23) rfl
                          have c1144 := sf_ma tw1099 (p := 88) rfl
                          have c1145 := sf_ma tw1099 (p := 26) rfl
                          have c1146 := sf_ma tw1099 (p := 89) rfl
                          have c1147 := sf_ma tw1099 (p := 27) rfl
                          have c1148 := sf_ma tw1099 (p := 90) rfl
                          have c1149 := sf_ma tw1099 (p := 36) rfl
                          have c1150 := sf_ma tw1099 (p := 102) rfl
                          have c1151 := sf_ma tw1099 (p := 37) rfl
                          have c1152 := sf_ma tw1099 (p := 103) rfl
                          refine sf_istore (L' := [(0, .inl (.ref 100000)), (1, .inl (.ref 0)), (2, .inl (.ref 71)), (3, .inl (.ref 130)), (4, .inl (.int x4))]) rfl ?_
                          refine sf_aload rfl ?_
                          refine sf_aload rfl ?_
                          refine sf_iload rfl ?_
                          refine sf_iconst sf_c1 (fun z1153 ez1153 => ?_)
                          refine sf_iadd (by omega) (fun v1154 ev1154 => ?_)
                          refine sf_sldk (x := x4) (k := 1) (by omega) (by omega) (by omega) ?_
                          clear ev1154 ez1153
                          refine sf_aload rfl ?_
                          refine sf_iload rfl ?_
                          refine sf_iconst sf_c2 (fun z1155 ez1155 => ?_)
                          refine sf_iadd (by omega) (fun v1156 ev1156 => ?_)
                          refine sf_sldk (x := x4) (k := 2) (by omega) (by omega) (by omega) ?_
                          clear ev1156 ez1155
                          refine sf_callv3 rfl (by omega) (by omega) ?_
                          refine sf_rv Iw1099 rfl ?_
                          refine sc_M_zone Iw1099  (fun w1157 Iw1157 tw1157 q1158_0 => ?_)
                          have c1159 := sf_mf tw1157 (p := 1) (j := 0) rfl
                          have c1160 := sf_mf tw1157 (p := 71) (j := 1) rfl
                          have c1161 := sf_mf tw1157 (p := 1) (j := 5) rfl
                          have c1162 := sf_mf tw1157 (p := 71) (j := 5) rfl
                          have c1163 := sf_mf tw1157 (p := 13) (j := 1) rfl
                          have c1164 := sf_mf tw1157 (p := 71) (j := 10) rfl
                          have c1165 := sf_mf tw1157 (p := 21) (j := 1) rfl
                          have c1166 := sf_mf tw1157 (p := 71) (j := 18) rfl
                          have c1167 := sf_mf tw1157 (p := 35) (j := 0) rfl
                          have c1168 := sf_mf tw1157 (p := 71) (j := 35) rfl
                          have c1169 := sf_ma tw1157 (p := 3) rfl
                          have c1170 := sf_ma tw1157 (p := 72) rfl
                          have c1171 := sf_mg tw1157 (p := 10) rfl
                          have c1172 := sf_ma tw1157 (p := 93) rfl
                          have c1173 := sf_mL tw1157 (p := 130) rfl
                          have c1174 := sf_ma tw1157 (p := 2) rfl
                          have c1175 := sf_ma tw1157 (p := 6) rfl
                          have c1176 := sf_ma tw1157 (p := 75) rfl
                          have c1177 := sf_ma tw1157 (p := 7) rfl
                          have c1178 := sf_ma tw1157 (p := 76) rfl
                          have c1179 := sf_ma tw1157 (p := 8) rfl
                          have c1180 := sf_ma tw1157 (p := 77) rfl
                          have c1181 := sf_ma tw1157 (p := 9) rfl
                          have c1182 := sf_ma tw1157 (p := 78) rfl
                          have c1183 := sf_ma tw1157 (p := 14) rfl
                          have c1184 := sf_ma tw1157 (p := 79) rfl
                          have c1185 := sf_ma tw1157 (p := 15) rfl
                          have c1186 := sf_ma tw1157 (p := 80) rfl
                          have c1187 := sf_ma tw1157 (p := 16) rfl
                          have c1188 := sf_ma tw1157 (p := 81) rfl
                          have c1189 := sf_ma tw1157 (p := 17) rfl
                          have c1190 := sf_ma tw1157 (p := 82) rfl
                          have c1191 := sf_ma tw1157 (p := 18) rfl
                          have c1192 := sf_ma tw1157 (p := 83) rfl
                          have c1193 := sf_ma tw1157 (p := 19) rfl
                          have c1194 := sf_ma tw1157 (p := 84) rfl
                          have c1195 := sf_ma tw1157 (p := 20) rfl
                          have c1196 := sf_ma tw1157 (p := 85) rfl
                          have c1197 := sf_ma tw1157 (p := 24) rfl
                          have c1198 := sf_ma tw1157 (p := 86) rfl
                          have c1199 := sf_ma tw1157 (p := 25) rfl
                          have c1200 := sf_ma tw1157 (p := 87) rfl
                          have c1201 := sf_ma tw1157 (p := 23) rfl
                          have c1202 := sf_ma tw1157 (p := 88) rfl
                          have c1203 := sf_ma tw1157 (p := 26) rfl
                          have c1204 := sf_ma tw1157 (p := 89) rfl
                          have c1205 := sf_ma tw1157 (p := 27) rfl
                          have c1206 := sf_ma tw1157 (p := 90) rfl
                          have c1207 := sf_ma tw1157 (p := 36) rfl
                          have c1208 := sf_ma tw1157 (p := 102) rfl
                          have c1209 := sf_ma tw1157 (p := 37) rfl
                          have c1210 := sf_ma tw1157 (p := 103) rfl
                          show kt_W_law_1421 N xs K _ _ _ _ _
                          refine sf_iinc (L' := [(5, .inl (.int v1098)), (0, .inl (.ref 100000)), (1, .inl (.ref 0)), (2, .inl (.ref 71)), (3, .inl (.ref 130))]) (x := x4) sf_c8 rfl rfl (by omega) (fun v1211 ev1211 => ?_)
                          refine sf_can (L' := [(0, .inl (.ref 100000)), (1, .inl (.ref 0)), (2, .inl (.ref 71)), (3, .inl (.ref 130)), (4, .inl (.int v1211))]) rfl ?_
                          exact ih _ _ _ _ Iw1157 (by omega) (by omega) (by omega) (by omega) (by rw [c1159, c1101]; rw [c1160, c1102]; rw [c1161, c1103]; rw [c1162, c1104]; rw [c1163, c1105]; rw [c1164, c1106]; rw [c1165, c1107]; rw [c1166, c1108]; rw [c1167, c1109]; rw [c1168, c1110]; omega) (by rw [c1169, c1111]; rw [c1170, c1112]; rw [c1160, c1102]; first | exact f_1 | exact hJ) (by rw [c1171, c1113]; rw [c1172, c1114]; first | exact f_2 | exact hK2) (by rw [c1174, c1116]; rw [c1170, c1112]; rw [c1160, c1102]; first | exact f_3 | exact hQ2) (by rw [c1175, c1117]; rw [c1176, c1118]; rw [c1162, c1104]; first | exact f_4 | exact hQ6) (by rw [c1177, c1119]; rw [c1178, c1120]; rw [c1162, c1104]; first | exact f_5 | exact hQ7) (by rw [c1179, c1121]; rw [c1180, c1122]; rw [c1162, c1104]; first | exact f_6 | exact hQ8) (by rw [c1181, c1123]; rw [c1182, c1124]; rw [c1162, c1104]; first | exact f_7 | exact hQ9) (by rw [c1183, c1125]; rw [c1184, c1126]; rw [c1164, c1106]; first | exact f_8 | exact hQ14) (by rw [c1185, c1127]; rw [c1186, c1128]; rw [c1164, c1106]; first | exact f_9 | exact hQ15) (by rw [c1187, c1129]; rw [c1188, c1130]; rw [c1164, c1106]; first | exact f_10 | exact hQ16) (by rw [c1189, c1131]; rw [c1190, c1132]; rw [c1164, c1106]; first | exact f_11 | exact hQ17) (by rw [c1191, c1133]; rw [c1192, c1134]; rw [c1164, c1106]; first | exact f_12 | exact hQ18) (by rw [c1193, c1135]; rw [c1194, c1136]; rw [c1164, c1106]; first | exact f_13 | exact hQ19) (by rw [c1195, c1137]; rw [c1196, c1138]; rw [c1164, c1106]; first | exact f_14 | exact hQ20) (by rw [c1197, c1139]; rw [c1198, c1140]; rw [c1166, c1108]; first | exact f_15 | exact hQ24) (by rw [c1199, c1141]; rw [c1200, c1142]; rw [c1166, c1108]; first | exact f_16 | exact hQ25) (by rw [c1201, c1143]; rw [c1202, c1144]; rw [c1166, c1108]; first | exact f_17 | exact hQ23) (by rw [c1203, c1145]; rw [c1204, c1146]; rw [c1166, c1108]; first | exact f_18 | exact hQ26) (by rw [c1205, c1147]; rw [c1206, c1148]; rw [c1166, c1108]; first | exact f_19 | exact hQ27) (by rw [c1207, c1149]; rw [c1208, c1150]; rw [c1168, c1110]; first | exact f_20 | exact hQ36) (by rw [c1209, c1151]; rw [c1210, c1152]; rw [c1168, c1110]; first | exact f_21 | exact hQ37) (by omega)
                        · clear h1093
                          refine sf_sw1 sf_c10 (fun h1212 => ?_) (fun h1212 => ?_)
                          · refine sf_aload rfl ?_
                            refine sf_aload rfl ?_
                            refine sf_iload rfl ?_
                            refine sf_iconst sf_c1 (fun z1213 ez1213 => ?_)
                            refine sf_iadd (by omega) (fun v1214 ev1214 => ?_)
                            refine sf_sldk (x := x4) (k := 1) (by omega) (by omega) (by omega) ?_
                            clear ev1214 ez1213
                            refine sf_aload rfl ?_
                            refine sf_iload rfl ?_
                            refine sf_iconst sf_c2 (fun z1215 ez1215 => ?_)
                            refine sf_iadd (by omega) (fun v1216 ev1216 => ?_)
                            refine sf_sldk (x := x4) (k := 2) (by omega) (by omega) (by omega) ?_
                            clear ev1216 ez1215
                            refine sf_aload rfl ?_
                            refine sf_iload rfl ?_
                            refine sf_iconst sf_c3 (fun z1217 ez1217 => ?_)
                            refine sf_iadd (by omega) (fun v1218 ev1218 => ?_)
                            refine sf_sldk (x := x4) (k := 3) (by omega) (by omega) (by omega) ?_
                            clear ev1218 ez1217
                            refine sf_callv4 rfl (by omega) (by omega) ?_
                            refine sc_W_rule_0 I_w  (fun v1219 w1220 Iw1220 tw1220 lv1219 uv1219 q1221_0 => ?_)
                            have c1222 := sf_mf tw1220 (p := 1) (j := 0) rfl
                            have c1223 := sf_mf tw1220 (p := 71) (j := 1) rfl
                            have c1224 := sf_mf tw1220 (p := 1) (j := 5) rfl
                            have c1225 := sf_mf tw1220 (p := 71) (j := 5) rfl
                            have c1226 := sf_mf tw1220 (p := 13) (j := 1) rfl
                            have c1227 := sf_mf tw1220 (p := 71) (j := 10) rfl
                            have c1228 := sf_mf tw1220 (p := 21) (j := 1) rfl
                            have c1229 := sf_mf tw1220 (p := 71) (j := 18) rfl
                            have c1230 := sf_mf tw1220 (p := 35) (j := 0) rfl
                            have c1231 := sf_mf tw1220 (p := 71) (j := 35) rfl
                            have c1232 := sf_ma tw1220 (p := 3) rfl
                            have c1233 := sf_ma tw1220 (p := 72) rfl
                            have c1234 := sf_mg tw1220 (p := 10) rfl
                            have c1235 := sf_ma tw1220 (p := 93) rfl
                            have c1236 := sf_mL tw1220 (p := 130) rfl
                            have c1237 := sf_ma tw1220 (p := 2) rfl
                            have c1238 := sf_ma tw1220 (p := 6) rfl
                            have c1239 := sf_ma tw1220 (p := 75) rfl
                            have c1240 := sf_ma tw1220 (p := 7) rfl
                            have c1241 := sf_ma tw1220 (p := 76) rfl
                            have c1242 := sf_ma tw1220 (p := 8) rfl
                            have c1243 := sf_ma tw1220 (p := 77) rfl
                            have c1244 := sf_ma tw1220 (p := 9) rfl
                            have c1245 := sf_ma tw1220 (p := 78) rfl
                            have c1246 := sf_ma tw1220 (p := 14) rfl
                            have c1247 := sf_ma tw1220 (p := 79) rfl
                            have c1248 := sf_ma tw1220 (p := 15) rfl
                            have c1249 := sf_ma tw1220 (p := 80) rfl
                            have c1250 := sf_ma tw1220 (p := 16) rfl
                            have c1251 := sf_ma tw1220 (p := 81) rfl
                            have c1252 := sf_ma tw1220 (p := 17) rfl
                            have c1253 := sf_ma tw1220 (p := 82) rfl
                            have c1254 := sf_ma tw1220 (p := 18) rfl
                            have c1255 := sf_ma tw1220 (p := 83) rfl
                            have c1256 := sf_ma tw1220 (p := 19) rfl
                            have c1257 := sf_ma tw1220 (p := 84) rfl
                            have c1258 := sf_ma tw1220 (p := 20) rfl
                            have c1259 := sf_ma tw1220 (p := 85) rfl
                            have c1260 := sf_ma tw1220 (p := 24) rfl
                            have c1261 := sf_ma tw1220 (p := 86) rfl
                            have c1262 := sf_ma tw1220 (p := 25) rfl
                            have c1263 := sf_ma tw1220 (p := 87) rfl
                            have c1264 := sf_ma tw1220 (p := 23) rfl
                            have c1265 := sf_ma tw1220 (p := 88) rfl
                            have c1266 := sf_ma tw1220 (p := 26) rfl
                            have c1267 := sf_ma tw1220 (p := 89) rfl
                            have c1268 := sf_ma tw1220 (p := 27) rfl
                            have c1269 := sf_ma tw1220 (p := 90) rfl
                            have c1270 := sf_ma tw1220 (p := 36) rfl
                            have c1271 := sf_ma tw1220 (p := 102) rfl
                            have c1272 := sf_ma tw1220 (p := 37) rfl
                            have c1273 := sf_ma tw1220 (p := 103) rfl
                            refine sf_istore (L' := [(0, .inl (.ref 100000)), (1, .inl (.ref 0)), (2, .inl (.ref 71)), (3, .inl (.ref 130)), (4, .inl (.int x4))]) rfl ?_
                            refine sf_aload rfl ?_
                            refine sf_aload rfl ?_
                            refine sf_iload rfl ?_
                            refine sf_iconst sf_c1 (fun z1274 ez1274 => ?_)
                            refine sf_iadd (by omega) (fun v1275 ev1275 => ?_)
                            refine sf_sldk (x := x4) (k := 1) (by omega) (by omega) (by omega) ?_
                            clear ev1275 ez1274
                            refine sf_aload rfl ?_
                            refine sf_iload rfl ?_
                            refine sf_iconst sf_c2 (fun z1276 ez1276 => ?_)
                            refine sf_iadd (by omega) (fun v1277 ev1277 => ?_)
                            refine sf_sldk (x := x4) (k := 2) (by omega) (by omega) (by omega) ?_
                            clear ev1277 ez1276
                            refine sf_aload rfl ?_
                            refine sf_iload rfl ?_
                            refine sf_iconst sf_c3 (fun z1278 ez1278 => ?_)
                            refine sf_iadd (by omega) (fun v1279 ev1279 => ?_)
                            refine sf_sldk (x := x4) (k := 3) (by omega) (by omega) (by omega) ?_
                            clear ev1279 ez1278
                            refine sf_callv4 rfl (by omega) (by omega) ?_
                            refine sf_rv Iw1220 rfl ?_
                            refine sc_M_rule Iw1220  (fun w1280 Iw1280 tw1280 q1281_0 => ?_)
                            rw [c1223] at q1281_0
                            have c1282 := sf_mf tw1280 (p := 1) (j := 0) rfl
                            have c1283 := sf_mf tw1280 (p := 71) (j := 1) rfl
                            have c1284 := sf_mf tw1280 (p := 1) (j := 5) rfl
                            have c1285 := sf_mf tw1280 (p := 71) (j := 5) rfl
                            have c1286 := sf_mf tw1280 (p := 13) (j := 1) rfl
                            have c1287 := sf_mf tw1280 (p := 71) (j := 10) rfl
                            have c1288 := sf_mf tw1280 (p := 21) (j := 1) rfl
                            have c1289 := sf_mf tw1280 (p := 71) (j := 18) rfl
                            have c1290 := sf_mf tw1280 (p := 35) (j := 0) rfl
                            have c1291 := sf_mf tw1280 (p := 71) (j := 35) rfl
                            have c1292 := sf_ma tw1280 (p := 3) rfl
                            have c1293 := sf_ma tw1280 (p := 72) rfl
                            have c1294 := sf_mg tw1280 (p := 10) rfl
                            have c1295 := sf_ma tw1280 (p := 93) rfl
                            have c1296 := sf_mL tw1280 (p := 130) rfl
                            have c1297 := sf_ma tw1280 (p := 2) rfl
                            have c1298 := sf_ma tw1280 (p := 6) rfl
                            have c1299 := sf_ma tw1280 (p := 75) rfl
                            have c1300 := sf_ma tw1280 (p := 7) rfl
                            have c1301 := sf_ma tw1280 (p := 76) rfl
                            have c1302 := sf_ma tw1280 (p := 8) rfl
                            have c1303 := sf_ma tw1280 (p := 77) rfl
                            have c1304 := sf_ma tw1280 (p := 9) rfl
                            have c1305 := sf_ma tw1280 (p := 78) rfl
                            have c1306 := sf_ma tw1280 (p := 14) rfl
                            have c1307 := sf_ma tw1280 (p := 79) rfl
                            have c1308 := sf_ma tw1280 (p := 15) rfl
                            have c1309 := sf_ma tw1280 (p := 80) rfl
                            have c1310 := sf_ma tw1280 (p := 16) rfl
                            have c1311 := sf_ma tw1280 (p := 81) rfl
                            have c1312 := sf_ma tw1280 (p := 17) rfl
                            have c1313 := sf_ma tw1280 (p := 82) rfl
                            have c1314 := sf_ma tw1280 (p := 18) rfl
                            have c1315 := sf_ma tw1280 (p := 83) rfl
                            have c1316 := sf_ma tw1280 (p := 19) rfl
                            have c1317 := sf_ma tw1280 (p := 84) rfl
                            have c1318 := sf_ma tw1280 (p := 20) rfl
                            have c1319 := sf_ma tw1280 (p := 85) rfl
                            have c1320 := sf_ma tw1280 (p := 24) rfl
                            have c1321 := sf_ma tw1280 (p := 86) rfl
                            have c1322 := sf_ma tw1280 (p := 25) rfl
                            have c1323 := sf_ma tw1280 (p := 87) rfl
                            have c1324 := sf_ma tw1280 (p := 23) rfl
                            have c1325 := sf_ma tw1280 (p := 88) rfl
                            have c1326 := sf_ma tw1280 (p := 26) rfl
                            have c1327 := sf_ma tw1280 (p := 89) rfl
                            have c1328 := sf_ma tw1280 (p := 27) rfl
                            have c1329 := sf_ma tw1280 (p := 90) rfl
                            have c1330 := sf_ma tw1280 (p := 36) rfl
                            have c1331 := sf_ma tw1280 (p := 102) rfl
                            have c1332 := sf_ma tw1280 (p := 37) rfl
                            have c1333 := sf_ma tw1280 (p := 103) rfl
                            show kt_W_law_1421 N xs K _ _ _ _ _
                            refine sf_iinc (L' := [(5, .inl (.int v1219)), (0, .inl (.ref 100000)), (1, .inl (.ref 0)), (2, .inl (.ref 71)), (3, .inl (.ref 130))]) (x := x4) sf_c8 rfl rfl (by omega) (fun v1334 ev1334 => ?_)
                            refine sf_can (L' := [(0, .inl (.ref 100000)), (1, .inl (.ref 0)), (2, .inl (.ref 71)), (3, .inl (.ref 130)), (4, .inl (.int v1334))]) rfl ?_
                            exact ih _ _ _ _ Iw1280 (by omega) (by omega) (by omega) (by omega) (by rw [c1282, c1222]; rw [c1283, c1223]; rw [c1284, c1224]; rw [c1285, c1225]; rw [c1286, c1226]; rw [c1287, c1227]; rw [c1288, c1228]; rw [c1289, c1229]; rw [c1290, c1230]; rw [c1291, c1231]; omega) (by rw [c1292, c1232]; rw [c1293, c1233]; rw [c1283, c1223]; first | exact f_1 | exact hJ) (by rw [c1294, c1234]; rw [c1295, c1235]; first | exact f_2 | exact hK2) (by rw [c1297, c1237]; rw [c1293, c1233]; rw [c1283, c1223]; first | exact f_3 | exact hQ2) (by rw [c1298, c1238]; rw [c1299, c1239]; rw [c1285, c1225]; first | exact f_4 | exact hQ6) (by rw [c1300, c1240]; rw [c1301, c1241]; rw [c1285, c1225]; first | exact f_5 | exact hQ7) (by rw [c1302, c1242]; rw [c1303, c1243]; rw [c1285, c1225]; first | exact f_6 | exact hQ8) (by rw [c1304, c1244]; rw [c1305, c1245]; rw [c1285, c1225]; first | exact f_7 | exact hQ9) (by rw [c1306, c1246]; rw [c1307, c1247]; rw [c1287, c1227]; first | exact f_8 | exact hQ14) (by rw [c1308, c1248]; rw [c1309, c1249]; rw [c1287, c1227]; first | exact f_9 | exact hQ15) (by rw [c1310, c1250]; rw [c1311, c1251]; rw [c1287, c1227]; first | exact f_10 | exact hQ16) (by rw [c1312, c1252]; rw [c1313, c1253]; rw [c1287, c1227]; first | exact f_11 | exact hQ17) (by rw [c1314, c1254]; rw [c1315, c1255]; rw [c1287, c1227]; first | exact f_12 | exact hQ18) (by rw [c1316, c1256]; rw [c1317, c1257]; rw [c1287, c1227]; first | exact f_13 | exact hQ19) (by rw [c1318, c1258]; rw [c1319, c1259]; rw [c1287, c1227]; first | exact f_14 | exact hQ20) (by rw [c1320, c1260]; rw [c1321, c1261]; rw [c1289, c1229]; first | exact f_15 | exact hQ24) (by rw [c1322, c1262]; rw [c1323, c1263]; rw [c1289, c1229]; first | exact f_16 | exact hQ25) (by rw [c1324, c1264]; rw [c1325, c1265]; rw [c1289, c1229]; first | exact f_17 | exact hQ23) (by rw [c1326, c1266]; rw [c1327, c1267]; rw [c1289, c1229]; first | exact f_18 | exact hQ26) (by rw [c1328, c1268]; rw [c1329, c1269]; rw [c1289, c1229]; first | exact f_19 | exact hQ27) (by rw [c1330, c1270]; rw [c1331, c1271]; rw [c1291, c1231]; first | exact f_20 | exact hQ36) (by rw [c1332, c1272]; rw [c1333, c1273]; rw [c1291, c1231]; first | exact f_21 | exact hQ37) (by omega)
                          · clear h1212
                            refine sf_sw1 sf_c11 (fun h1335 => ?_) (fun h1335 => ?_)
                            · refine sf_aload rfl ?_
                              refine sf_aload rfl ?_
                              refine sf_iload rfl ?_
                              refine sf_iconst sf_c1 (fun z1336 ez1336 => ?_)
                              refine sf_iadd (by omega) (fun v1337 ev1337 => ?_)
                              refine sf_sldk (x := x4) (k := 1) (by omega) (by omega) (by omega) ?_
                              clear ev1337 ez1336
                              refine sf_aload rfl ?_
                              refine sf_iload rfl ?_
                              refine sf_iconst sf_c2 (fun z1338 ez1338 => ?_)
                              refine sf_iadd (by omega) (fun v1339 ev1339 => ?_)
                              refine sf_sldk (x := x4) (k := 2) (by omega) (by omega) (by omega) ?_
                              clear ev1339 ez1338
                              refine sf_aload rfl ?_
                              refine sf_callv4 rfl (by omega) (by omega) ?_
                              refine sc_W_madeIn_0_130 I_w  (fun v1340 w1341 Iw1341 tw1341 lv1340 uv1340 => ?_)
                              have c1343 := sf_mf tw1341 (p := 1) (j := 0) rfl
                              have c1344 := sf_mf tw1341 (p := 71) (j := 1) rfl
                              have c1345 := sf_mf tw1341 (p := 1) (j := 5) rfl
                              have c1346 := sf_mf tw1341 (p := 71) (j := 5) rfl
                              have c1347 := sf_mf tw1341 (p := 13) (j := 1) rfl
                              have c1348 := sf_mf tw1341 (p := 71) (j := 10) rfl
                              have c1349 := sf_mf tw1341 (p := 21) (j := 1) rfl
                              have c1350 := sf_mf tw1341 (p := 71) (j := 18) rfl
                              have c1351 := sf_mf tw1341 (p := 35) (j := 0) rfl
                              have c1352 := sf_mf tw1341 (p := 71) (j := 35) rfl
                              have c1353 := sf_ma tw1341 (p := 3) rfl
                              have c1354 := sf_ma tw1341 (p := 72) rfl
                              have c1355 := sf_mg tw1341 (p := 10) rfl
                              have c1356 := sf_ma tw1341 (p := 93) rfl
                              have c1357 := sf_ma tw1341 (p := 2) rfl
                              have c1358 := sf_ma tw1341 (p := 6) rfl
                              have c1359 := sf_ma tw1341 (p := 75) rfl
                              have c1360 := sf_ma tw1341 (p := 7) rfl
                              have c1361 := sf_ma tw1341 (p := 76) rfl
                              have c1362 := sf_ma tw1341 (p := 8) rfl
                              have c1363 := sf_ma tw1341 (p := 77) rfl
                              have c1364 := sf_ma tw1341 (p := 9) rfl
                              have c1365 := sf_ma tw1341 (p := 78) rfl
                              have c1366 := sf_ma tw1341 (p := 14) rfl
                              have c1367 := sf_ma tw1341 (p := 79) rfl
                              have c1368 := sf_ma tw1341 (p := 15) rfl
                              have c1369 := sf_ma tw1341 (p := 80) rfl
                              have c1370 := sf_ma tw1341 (p := 16) rfl
                              have c1371 := sf_ma tw1341 (p := 81) rfl
                              have c1372 := sf_ma tw1341 (p := 17) rfl
                              have c1373 := sf_ma tw1341 (p := 82) rfl
                              have c1374 := sf_ma tw1341 (p := 18) rfl
                              have c1375 := sf_ma tw1341 (p := 83) rfl
                              have c1376 := sf_ma tw1341 (p := 19) rfl
                              have c1377 := sf_ma tw1341 (p := 84) rfl
                              have c1378 := sf_ma tw1341 (p := 20) rfl
                              have c1379 := sf_ma tw1341 (p := 85) rfl
                              have c1380 := sf_ma tw1341 (p := 24) rfl
                              have c1381 := sf_ma tw1341 (p := 86) rfl
                              have c1382 := sf_ma tw1341 (p := 25) rfl
                              have c1383 := sf_ma tw1341 (p := 87) rfl
                              have c1384 := sf_ma tw1341 (p := 23) rfl
                              have c1385 := sf_ma tw1341 (p := 88) rfl
                              have c1386 := sf_ma tw1341 (p := 26) rfl
                              have c1387 := sf_ma tw1341 (p := 89) rfl
                              have c1388 := sf_ma tw1341 (p := 27) rfl
                              have c1389 := sf_ma tw1341 (p := 90) rfl
                              have c1390 := sf_ma tw1341 (p := 36) rfl
                              have c1391 := sf_ma tw1341 (p := 102) rfl
                              have c1392 := sf_ma tw1341 (p := 37) rfl
                              have c1393 := sf_ma tw1341 (p := 103) rfl
                              refine sf_istore (L' := [(0, .inl (.ref 100000)), (1, .inl (.ref 0)), (2, .inl (.ref 71)), (3, .inl (.ref 130)), (4, .inl (.int x4))]) rfl ?_
                              refine sf_aload rfl ?_
                              refine sf_aload rfl ?_
                              refine sf_iload rfl ?_
                              refine sf_iconst sf_c1 (fun z1394 ez1394 => ?_)
                              refine sf_iadd (by omega) (fun v1395 ev1395 => ?_)
                              refine sf_sldk (x := x4) (k := 1) (by omega) (by omega) (by omega) ?_
                              clear ev1395 ez1394
                              refine sf_aload rfl ?_
                              refine sf_iload rfl ?_
                              refine sf_iconst sf_c2 (fun z1396 ez1396 => ?_)
                              refine sf_iadd (by omega) (fun v1397 ev1397 => ?_)
                              refine sf_sldk (x := x4) (k := 2) (by omega) (by omega) (by omega) ?_
                              clear ev1397 ez1396
                              refine sf_callv3 rfl (by omega) (by omega) ?_
                              refine sf_rv Iw1341 rfl ?_
                              refine sc_M_madeIn Iw1341  (fun v1398 w1399 Iw1399 tw1399 lv1398 uv1398 => ?_)
                              have c1401 := sf_mf tw1399 (p := 1) (j := 0) rfl
                              have c1402 := sf_mf tw1399 (p := 71) (j := 1) rfl
                              have c1403 := sf_mf tw1399 (p := 1) (j := 5) rfl
                              have c1404 := sf_mf tw1399 (p := 71) (j := 5) rfl
                              have c1405 := sf_mf tw1399 (p := 13) (j := 1) rfl
                              have c1406 := sf_mf tw1399 (p := 71) (j := 10) rfl
                              have c1407 := sf_mf tw1399 (p := 21) (j := 1) rfl
                              have c1408 := sf_mf tw1399 (p := 71) (j := 18) rfl
                              have c1409 := sf_mf tw1399 (p := 35) (j := 0) rfl
                              have c1410 := sf_mf tw1399 (p := 71) (j := 35) rfl
                              have c1411 := sf_ma tw1399 (p := 3) rfl
                              have c1412 := sf_ma tw1399 (p := 72) rfl
                              have c1413 := sf_mg tw1399 (p := 10) rfl
                              have c1414 := sf_ma tw1399 (p := 93) rfl
                              have c1415 := sf_mL tw1399 (p := 130) rfl
                              have c1416 := sf_ma tw1399 (p := 2) rfl
                              have c1417 := sf_ma tw1399 (p := 6) rfl
                              have c1418 := sf_ma tw1399 (p := 75) rfl
                              have c1419 := sf_ma tw1399 (p := 7) rfl
                              have c1420 := sf_ma tw1399 (p := 76) rfl
                              have c1421 := sf_ma tw1399 (p := 8) rfl
                              have c1422 := sf_ma tw1399 (p := 77) rfl
                              have c1423 := sf_ma tw1399 (p := 9) rfl
                              have c1424 := sf_ma tw1399 (p := 78) rfl
                              have c1425 := sf_ma tw1399 (p := 14) rfl
                              have c1426 := sf_ma tw1399 (p := 79) rfl
                              have c1427 := sf_ma tw1399 (p := 15) rfl
                              have c1428 := sf_ma tw1399 (p := 80) rfl
                              have c1429 := sf_ma tw1399 (p := 16) rfl
                              have c1430 := sf_ma tw1399 (p := 81) rfl
                              have c1431 := sf_ma tw1399 (p := 17) rfl
                              have c1432 := sf_ma tw1399 (p := 82) rfl
                              have c1433 := sf_ma tw1399 (p := 18) rfl
                              have c1434 := sf_ma tw1399 (p := 83) rfl
                              have c1435 := sf_ma tw1399 (p := 19) rfl
                              have c1436 := sf_ma tw1399 (p := 84) rfl
                              have c1437 := sf_ma tw1399 (p := 20) rfl
                              have c1438 := sf_ma tw1399 (p := 85) rfl
                              have c1439 := sf_ma tw1399 (p := 24) rfl
                              have c1440 := sf_ma tw1399 (p := 86) rfl
                              have c1441 := sf_ma tw1399 (p := 25) rfl
                              have c1442 := sf_ma tw1399 (p := 87) rfl
                              have c1443 := sf_ma tw1399 (p := 23) rfl
                              have c1444 := sf_ma tw1399 (p := 88) rfl
                              have c1445 := sf_ma tw1399 (p := 26) rfl
                              have c1446 := sf_ma tw1399 (p := 89) rfl
                              have c1447 := sf_ma tw1399 (p := 27) rfl
                              have c1448 := sf_ma tw1399 (p := 90) rfl
                              have c1449 := sf_ma tw1399 (p := 36) rfl
                              have c1450 := sf_ma tw1399 (p := 102) rfl
                              have c1451 := sf_ma tw1399 (p := 37) rfl
                              have c1452 := sf_ma tw1399 (p := 103) rfl
                              refine sf_istore (L' := [(5, .inl (.int v1340)), (0, .inl (.ref 100000)), (1, .inl (.ref 0)), (2, .inl (.ref 71)), (3, .inl (.ref 130)), (4, .inl (.int x4))]) rfl ?_
                              show kt_W_law_1421 N xs K _ _ _ _ _
                              refine sf_iinc (L' := [(6, .inl (.int v1398)), (5, .inl (.int v1340)), (0, .inl (.ref 100000)), (1, .inl (.ref 0)), (2, .inl (.ref 71)), (3, .inl (.ref 130))]) (x := x4) sf_c8 rfl rfl (by omega) (fun v1453 ev1453 => ?_)
                              refine sf_can (L' := [(0, .inl (.ref 100000)), (1, .inl (.ref 0)), (2, .inl (.ref 71)), (3, .inl (.ref 130)), (4, .inl (.int v1453))]) rfl ?_
                              exact ih _ _ _ _ Iw1399 (by omega) (by omega) (by omega) (by omega) (by rw [c1401, c1343]; rw [c1402, c1344]; rw [c1403, c1345]; rw [c1404, c1346]; rw [c1405, c1347]; rw [c1406, c1348]; rw [c1407, c1349]; rw [c1408, c1350]; rw [c1409, c1351]; rw [c1410, c1352]; omega) (by rw [c1411, c1353]; rw [c1412, c1354]; rw [c1402, c1344]; first | exact f_1 | exact hJ) (by rw [c1413, c1355]; rw [c1414, c1356]; first | exact f_2 | exact hK2) (by rw [c1416, c1357]; rw [c1412, c1354]; rw [c1402, c1344]; first | exact f_3 | exact hQ2) (by rw [c1417, c1358]; rw [c1418, c1359]; rw [c1404, c1346]; first | exact f_4 | exact hQ6) (by rw [c1419, c1360]; rw [c1420, c1361]; rw [c1404, c1346]; first | exact f_5 | exact hQ7) (by rw [c1421, c1362]; rw [c1422, c1363]; rw [c1404, c1346]; first | exact f_6 | exact hQ8) (by rw [c1423, c1364]; rw [c1424, c1365]; rw [c1404, c1346]; first | exact f_7 | exact hQ9) (by rw [c1425, c1366]; rw [c1426, c1367]; rw [c1406, c1348]; first | exact f_8 | exact hQ14) (by rw [c1427, c1368]; rw [c1428, c1369]; rw [c1406, c1348]; first | exact f_9 | exact hQ15) (by rw [c1429, c1370]; rw [c1430, c1371]; rw [c1406, c1348]; first | exact f_10 | exact hQ16) (by rw [c1431, c1372]; rw [c1432, c1373]; rw [c1406, c1348]; first | exact f_11 | exact hQ17) (by rw [c1433, c1374]; rw [c1434, c1375]; rw [c1406, c1348]; first | exact f_12 | exact hQ18) (by rw [c1435, c1376]; rw [c1436, c1377]; rw [c1406, c1348]; first | exact f_13 | exact hQ19) (by rw [c1437, c1378]; rw [c1438, c1379]; rw [c1406, c1348]; first | exact f_14 | exact hQ20) (by rw [c1439, c1380]; rw [c1440, c1381]; rw [c1408, c1350]; first | exact f_15 | exact hQ24) (by rw [c1441, c1382]; rw [c1442, c1383]; rw [c1408, c1350]; first | exact f_16 | exact hQ25) (by rw [c1443, c1384]; rw [c1444, c1385]; rw [c1408, c1350]; first | exact f_17 | exact hQ23) (by rw [c1445, c1386]; rw [c1446, c1387]; rw [c1408, c1350]; first | exact f_18 | exact hQ26) (by rw [c1447, c1388]; rw [c1448, c1389]; rw [c1408, c1350]; first | exact f_19 | exact hQ27) (by rw [c1449, c1390]; rw [c1450, c1391]; rw [c1410, c1352]; first | exact f_20 | exact hQ36) (by rw [c1451, c1392]; rw [c1452, c1393]; rw [c1410, c1352]; first | exact f_21 | exact hQ37) (by omega)
                            · clear h1335
                              refine sf_sw1 sf_c12 (fun h1454 => ?_) (fun h1454 => ?_)
                              · refine sf_aload rfl ?_
                                refine sf_aload rfl ?_
                                refine sf_iload rfl ?_
                                refine sf_iconst sf_c1 (fun z1455 ez1455 => ?_)
                                refine sf_iadd (by omega) (fun v1456 ev1456 => ?_)
                                refine sf_sldk (x := x4) (k := 1) (by omega) (by omega) (by omega) ?_
                                clear ev1456 ez1455
                                refine sf_aload rfl ?_
                                refine sf_iload rfl ?_
                                refine sf_iconst sf_c2 (fun z1457 ez1457 => ?_)
                                refine sf_iadd (by omega) (fun v1458 ev1458 => ?_)
                                refine sf_sldk (x := x4) (k := 2) (by omega) (by omega) (by omega) ?_
                                clear ev1458 ez1457
                                refine sf_aload rfl ?_
                                refine sf_callv4 rfl (by omega) (by omega) ?_
                                refine sc_W_declare_0_130 I_w  (fun v1459 w1460 Iw1460 tw1460 lv1459 uv1459 q1461_0 q1461_1 q1461_2 => ?_)
                                have c1462 := sf_mf tw1460 (p := 1) (j := 0) rfl
                                have c1463 := sf_mf tw1460 (p := 71) (j := 1) rfl
                                have c1464 := sf_mf tw1460 (p := 1) (j := 5) rfl
                                have c1465 := sf_mf tw1460 (p := 71) (j := 5) rfl
                                have c1466 := sf_mf tw1460 (p := 13) (j := 1) rfl
                                have c1467 := sf_mf tw1460 (p := 71) (j := 10) rfl
                                have c1468 := sf_mf tw1460 (p := 21) (j := 1) rfl
                                have c1469 := sf_mf tw1460 (p := 71) (j := 18) rfl
                                have c1470 := sf_mf tw1460 (p := 71) (j := 35) rfl
                                have c1471 := sf_ma tw1460 (p := 3) rfl
                                have c1472 := sf_ma tw1460 (p := 72) rfl
                                have c1473 := sf_mg tw1460 (p := 10) rfl
                                have c1474 := sf_ma tw1460 (p := 93) rfl
                                have c1475 := sf_ma tw1460 (p := 2) rfl
                                have c1476 := sf_ma tw1460 (p := 6) rfl
                                have c1477 := sf_ma tw1460 (p := 75) rfl
                                have c1478 := sf_ma tw1460 (p := 7) rfl
                                have c1479 := sf_ma tw1460 (p := 76) rfl
                                have c1480 := sf_ma tw1460 (p := 8) rfl
                                have c1481 := sf_ma tw1460 (p := 77) rfl
                                have c1482 := sf_ma tw1460 (p := 9) rfl
                                have c1483 := sf_ma tw1460 (p := 78) rfl
                                have c1484 := sf_ma tw1460 (p := 14) rfl
                                have c1485 := sf_ma tw1460 (p := 79) rfl
                                have c1486 := sf_ma tw1460 (p := 15) rfl
                                have c1487 := sf_ma tw1460 (p := 80) rfl
                                have c1488 := sf_ma tw1460 (p := 16) rfl
                                have c1489 := sf_ma tw1460 (p := 81) rfl
                                have c1490 := sf_ma tw1460 (p := 17) rfl
                                have c1491 := sf_ma tw1460 (p := 82) rfl
                                have c1492 := sf_ma tw1460 (p := 18) rfl
                                have c1493 := sf_ma tw1460 (p := 83) rfl
                                have c1494 := sf_ma tw1460 (p := 19) rfl
                                have c1495 := sf_ma tw1460 (p := 84) rfl
                                have c1496 := sf_ma tw1460 (p := 20) rfl
                                have c1497 := sf_ma tw1460 (p := 85) rfl
                                have c1498 := sf_ma tw1460 (p := 24) rfl
                                have c1499 := sf_ma tw1460 (p := 86) rfl
                                have c1500 := sf_ma tw1460 (p := 25) rfl
                                have c1501 := sf_ma tw1460 (p := 87) rfl
                                have c1502 := sf_ma tw1460 (p := 23) rfl
                                have c1503 := sf_ma tw1460 (p := 88) rfl
                                have c1504 := sf_ma tw1460 (p := 26) rfl
                                have c1505 := sf_ma tw1460 (p := 89) rfl
                                have c1506 := sf_ma tw1460 (p := 27) rfl
                                have c1507 := sf_ma tw1460 (p := 90) rfl
                                have c1508 := sf_ma tw1460 (p := 102) rfl
                                have c1509 := sf_ma tw1460 (p := 103) rfl
                                have U36 := q1461_1
                                have U37 := q1461_2
                                clear q1461_1 q1461_2
                                have F1 := q1461_0
                                refine sf_istore (L' := [(0, .inl (.ref 100000)), (1, .inl (.ref 0)), (2, .inl (.ref 71)), (3, .inl (.ref 130)), (4, .inl (.int x4))]) rfl ?_
                                refine sf_aload rfl ?_
                                refine sf_aload rfl ?_
                                refine sf_iload rfl ?_
                                refine sf_iconst sf_c1 (fun z1510 ez1510 => ?_)
                                refine sf_iadd (by omega) (fun v1511 ev1511 => ?_)
                                refine sf_sldk (x := x4) (k := 1) (by omega) (by omega) (by omega) ?_
                                clear ev1511 ez1510
                                refine sf_aload rfl ?_
                                refine sf_iload rfl ?_
                                refine sf_iconst sf_c2 (fun z1512 ez1512 => ?_)
                                refine sf_iadd (by omega) (fun v1513 ev1513 => ?_)
                                refine sf_sldk (x := x4) (k := 2) (by omega) (by omega) (by omega) ?_
                                clear ev1513 ez1512
                                refine sf_callv3 rfl (by omega) (by omega) ?_
                                refine sf_rv Iw1460 rfl ?_
                                refine sc_M_declare Iw1460  (fun v1514 w1515 Iw1515 tw1515 lv1514 uv1514 q1516_0 q1516_1 q1516_2 => ?_)
                                rw [c1470] at q1516_0
                                rw [c1508] at q1516_1
                                rw [c1470] at q1516_1
                                rw [c1509] at q1516_2
                                rw [c1470] at q1516_2
                                have c1517 := sf_mf tw1515 (p := 1) (j := 0) rfl
                                have c1518 := sf_mf tw1515 (p := 71) (j := 1) rfl
                                have c1519 := sf_mf tw1515 (p := 1) (j := 5) rfl
                                have c1520 := sf_mf tw1515 (p := 71) (j := 5) rfl
                                have c1521 := sf_mf tw1515 (p := 13) (j := 1) rfl
                                have c1522 := sf_mf tw1515 (p := 71) (j := 10) rfl
                                have c1523 := sf_mf tw1515 (p := 21) (j := 1) rfl
                                have c1524 := sf_mf tw1515 (p := 71) (j := 18) rfl
                                have c1525 := sf_mf tw1515 (p := 35) (j := 0) rfl
                                have c1526 := sf_ma tw1515 (p := 3) rfl
                                have c1527 := sf_ma tw1515 (p := 72) rfl
                                have c1528 := sf_mg tw1515 (p := 10) rfl
                                have c1529 := sf_ma tw1515 (p := 93) rfl
                                have c1530 := sf_mL tw1515 (p := 130) rfl
                                have c1531 := sf_ma tw1515 (p := 2) rfl
                                have c1532 := sf_ma tw1515 (p := 6) rfl
                                have c1533 := sf_ma tw1515 (p := 75) rfl
                                have c1534 := sf_ma tw1515 (p := 7) rfl
                                have c1535 := sf_ma tw1515 (p := 76) rfl
                                have c1536 := sf_ma tw1515 (p := 8) rfl
                                have c1537 := sf_ma tw1515 (p := 77) rfl
                                have c1538 := sf_ma tw1515 (p := 9) rfl
                                have c1539 := sf_ma tw1515 (p := 78) rfl
                                have c1540 := sf_ma tw1515 (p := 14) rfl
                                have c1541 := sf_ma tw1515 (p := 79) rfl
                                have c1542 := sf_ma tw1515 (p := 15) rfl
                                have c1543 := sf_ma tw1515 (p := 80) rfl
                                have c1544 := sf_ma tw1515 (p := 16) rfl
                                have c1545 := sf_ma tw1515 (p := 81) rfl
                                have c1546 := sf_ma tw1515 (p := 17) rfl
                                have c1547 := sf_ma tw1515 (p := 82) rfl
                                have c1548 := sf_ma tw1515 (p := 18) rfl
                                have c1549 := sf_ma tw1515 (p := 83) rfl
                                have c1550 := sf_ma tw1515 (p := 19) rfl
                                have c1551 := sf_ma tw1515 (p := 84) rfl
                                have c1552 := sf_ma tw1515 (p := 20) rfl
                                have c1553 := sf_ma tw1515 (p := 85) rfl
                                have c1554 := sf_ma tw1515 (p := 24) rfl
                                have c1555 := sf_ma tw1515 (p := 86) rfl
                                have c1556 := sf_ma tw1515 (p := 25) rfl
                                have c1557 := sf_ma tw1515 (p := 87) rfl
                                have c1558 := sf_ma tw1515 (p := 23) rfl
                                have c1559 := sf_ma tw1515 (p := 88) rfl
                                have c1560 := sf_ma tw1515 (p := 26) rfl
                                have c1561 := sf_ma tw1515 (p := 89) rfl
                                have c1562 := sf_ma tw1515 (p := 27) rfl
                                have c1563 := sf_ma tw1515 (p := 90) rfl
                                have c1564 := sf_ma tw1515 (p := 36) rfl
                                have c1565 := sf_ma tw1515 (p := 37) rfl
                                have U102 := q1516_1
                                have U103 := q1516_2
                                clear q1516_1 q1516_2
                                have G1 := q1516_0
                                have hrc : v1459.toInt = (sf_f w1515 71 0).toInt := by omega
                                have hcn : (v1459.toInt = 0 ∧ (sf_f w1515 71 35).toInt = (sf_f w 71 35).toInt + 1) ∨ (v1459.toInt ≠ 0 ∧ (sf_f w1515 71 35).toInt = (sf_f w 71 35).toInt) := by omega
                                have hQ36 := sf_QH f_20 U36 U102 (by omega) hrc hcn
                                have hQ37 := sf_QH f_21 U37 U103 (by omega) hrc hcn
                                refine sf_istore (L' := [(5, .inl (.int v1459)), (0, .inl (.ref 100000)), (1, .inl (.ref 0)), (2, .inl (.ref 71)), (3, .inl (.ref 130)), (4, .inl (.int x4))]) rfl ?_
                                show kt_W_law_1421 N xs K _ _ _ _ _
                                refine sf_iinc (L' := [(6, .inl (.int v1514)), (5, .inl (.int v1459)), (0, .inl (.ref 100000)), (1, .inl (.ref 0)), (2, .inl (.ref 71)), (3, .inl (.ref 130))]) (x := x4) sf_c8 rfl rfl (by omega) (fun v1566 ev1566 => ?_)
                                refine sf_can (L' := [(0, .inl (.ref 100000)), (1, .inl (.ref 0)), (2, .inl (.ref 71)), (3, .inl (.ref 130)), (4, .inl (.int v1566))]) rfl ?_
                                exact ih _ _ _ _ Iw1515 (by omega) (by omega) (by omega) (by omega) (by rw [c1517, c1462]; rw [c1518, c1463]; rw [c1519, c1464]; rw [c1520, c1465]; rw [c1521, c1466]; rw [c1522, c1467]; rw [c1523, c1468]; rw [c1524, c1469]; rw [c1525]; omega) (by rw [c1526, c1471]; rw [c1527, c1472]; rw [c1518, c1463]; first | exact f_1 | exact hJ) (by rw [c1528, c1473]; rw [c1529, c1474]; first | exact f_2 | exact hK2) (by rw [c1531, c1475]; rw [c1527, c1472]; rw [c1518, c1463]; first | exact f_3 | exact hQ2) (by rw [c1532, c1476]; rw [c1533, c1477]; rw [c1520, c1465]; first | exact f_4 | exact hQ6) (by rw [c1534, c1478]; rw [c1535, c1479]; rw [c1520, c1465]; first | exact f_5 | exact hQ7) (by rw [c1536, c1480]; rw [c1537, c1481]; rw [c1520, c1465]; first | exact f_6 | exact hQ8) (by rw [c1538, c1482]; rw [c1539, c1483]; rw [c1520, c1465]; first | exact f_7 | exact hQ9) (by rw [c1540, c1484]; rw [c1541, c1485]; rw [c1522, c1467]; first | exact f_8 | exact hQ14) (by rw [c1542, c1486]; rw [c1543, c1487]; rw [c1522, c1467]; first | exact f_9 | exact hQ15) (by rw [c1544, c1488]; rw [c1545, c1489]; rw [c1522, c1467]; first | exact f_10 | exact hQ16) (by rw [c1546, c1490]; rw [c1547, c1491]; rw [c1522, c1467]; first | exact f_11 | exact hQ17) (by rw [c1548, c1492]; rw [c1549, c1493]; rw [c1522, c1467]; first | exact f_12 | exact hQ18) (by rw [c1550, c1494]; rw [c1551, c1495]; rw [c1522, c1467]; first | exact f_13 | exact hQ19) (by rw [c1552, c1496]; rw [c1553, c1497]; rw [c1522, c1467]; first | exact f_14 | exact hQ20) (by rw [c1554, c1498]; rw [c1555, c1499]; rw [c1524, c1469]; first | exact f_15 | exact hQ24) (by rw [c1556, c1500]; rw [c1557, c1501]; rw [c1524, c1469]; first | exact f_16 | exact hQ25) (by rw [c1558, c1502]; rw [c1559, c1503]; rw [c1524, c1469]; first | exact f_17 | exact hQ23) (by rw [c1560, c1504]; rw [c1561, c1505]; rw [c1524, c1469]; first | exact f_18 | exact hQ26) (by rw [c1562, c1506]; rw [c1563, c1507]; rw [c1524, c1469]; first | exact f_19 | exact hQ27) (by rw [c1564]; first | exact f_20 | exact hQ36) (by rw [c1565]; first | exact f_21 | exact hQ37) (by omega)
                              · clear h1454
                                refine sf_sw1 sf_c13 (fun h1567 => ?_) (fun h1567 => ?_)
                                · refine sf_aload rfl ?_
                                  refine sf_aload rfl ?_
                                  refine sf_iload rfl ?_
                                  refine sf_iconst sf_c1 (fun z1568 ez1568 => ?_)
                                  refine sf_iadd (by omega) (fun v1569 ev1569 => ?_)
                                  refine sf_sldk (x := x4) (k := 1) (by omega) (by omega) (by omega) ?_
                                  clear ev1569 ez1568
                                  refine sf_aload rfl ?_
                                  refine sf_iload rfl ?_
                                  refine sf_iconst sf_c2 (fun z1570 ez1570 => ?_)
                                  refine sf_iadd (by omega) (fun v1571 ev1571 => ?_)
                                  refine sf_sldk (x := x4) (k := 2) (by omega) (by omega) (by omega) ?_
                                  clear ev1571 ez1570
                                  refine sf_aload rfl ?_
                                  refine sf_iload rfl ?_
                                  refine sf_iconst sf_c3 (fun z1572 ez1572 => ?_)
                                  refine sf_iadd (by omega) (fun v1573 ev1573 => ?_)
                                  refine sf_sldk (x := x4) (k := 3) (by omega) (by omega) (by omega) ?_
                                  clear ev1573 ez1572
                                  refine sf_aload rfl ?_
                                  refine sf_iload rfl ?_
                                  refine sf_iconst sf_c4 (fun z1574 ez1574 => ?_)
                                  refine sf_iadd (by omega) (fun v1575 ev1575 => ?_)
                                  refine sf_sldk (x := x4) (k := 4) (by omega) (by omega) (by omega) ?_
                                  clear ev1575 ez1574
                                  refine sf_aload rfl ?_
                                  refine sf_iload rfl ?_
                                  refine sf_iconst sf_c5 (fun z1576 ez1576 => ?_)
                                  refine sf_iadd (by omega) (fun v1577 ev1577 => ?_)
                                  refine sf_sldk (x := x4) (k := 5) (by omega) (by omega) (by omega) ?_
                                  clear ev1577 ez1576
                                  refine sf_aload rfl ?_
                                  refine sf_iload rfl ?_
                                  refine sf_iconst sf_c6 (fun z1578 ez1578 => ?_)
                                  refine sf_iadd (by omega) (fun v1579 ev1579 => ?_)
                                  refine sf_sldk (x := x4) (k := 6) (by omega) (by omega) (by omega) ?_
                                  clear ev1579 ez1578
                                  refine sf_aload rfl ?_
                                  refine sf_iload rfl ?_
                                  refine sf_iconst sf_c7 (fun z1580 ez1580 => ?_)
                                  refine sf_iadd (by omega) (fun v1581 ev1581 => ?_)
                                  refine sf_sldk (x := x4) (k := 7) (by omega) (by omega) (by omega) ?_
                                  clear ev1581 ez1580
                                  refine sf_f1_eq (fun h1582 => ?_) (fun h1582 => ?_)
                                  · refine sf_iconst sf_c0 (fun z1583 ez1583 => ?_)
                                    refine sf_aload rfl ?_
                                    refine sf_callv9 rfl (by omega) (by omega) ?_
                                    refine sc_W_line_0_130 I_w (by omega) (by omega) (fun v1584 w1585 Iw1585 tw1585 lv1584 uv1584 => ?_)
                                    have c1587 := sf_mf tw1585 (p := 1) (j := 0) rfl
                                    have c1588 := sf_mf tw1585 (p := 71) (j := 1) rfl
                                    have c1589 := sf_mf tw1585 (p := 1) (j := 5) rfl
                                    have c1590 := sf_mf tw1585 (p := 71) (j := 5) rfl
                                    have c1591 := sf_mf tw1585 (p := 13) (j := 1) rfl
                                    have c1592 := sf_mf tw1585 (p := 71) (j := 10) rfl
                                    have c1593 := sf_mf tw1585 (p := 21) (j := 1) rfl
                                    have c1594 := sf_mf tw1585 (p := 71) (j := 18) rfl
                                    have c1595 := sf_mf tw1585 (p := 35) (j := 0) rfl
                                    have c1596 := sf_mf tw1585 (p := 71) (j := 35) rfl
                                    have c1597 := sf_ma tw1585 (p := 3) rfl
                                    have c1598 := sf_ma tw1585 (p := 72) rfl
                                    have c1599 := sf_mg tw1585 (p := 10) rfl
                                    have c1600 := sf_ma tw1585 (p := 93) rfl
                                    have c1601 := sf_ma tw1585 (p := 2) rfl
                                    have c1602 := sf_ma tw1585 (p := 6) rfl
                                    have c1603 := sf_ma tw1585 (p := 75) rfl
                                    have c1604 := sf_ma tw1585 (p := 7) rfl
                                    have c1605 := sf_ma tw1585 (p := 76) rfl
                                    have c1606 := sf_ma tw1585 (p := 8) rfl
                                    have c1607 := sf_ma tw1585 (p := 77) rfl
                                    have c1608 := sf_ma tw1585 (p := 9) rfl
                                    have c1609 := sf_ma tw1585 (p := 78) rfl
                                    have c1610 := sf_ma tw1585 (p := 14) rfl
                                    have c1611 := sf_ma tw1585 (p := 79) rfl
                                    have c1612 := sf_ma tw1585 (p := 15) rfl
                                    have c1613 := sf_ma tw1585 (p := 80) rfl
                                    have c1614 := sf_ma tw1585 (p := 16) rfl
                                    have c1615 := sf_ma tw1585 (p := 81) rfl
                                    have c1616 := sf_ma tw1585 (p := 17) rfl
                                    have c1617 := sf_ma tw1585 (p := 82) rfl
                                    have c1618 := sf_ma tw1585 (p := 18) rfl
                                    have c1619 := sf_ma tw1585 (p := 83) rfl
                                    have c1620 := sf_ma tw1585 (p := 19) rfl
                                    have c1621 := sf_ma tw1585 (p := 84) rfl
                                    have c1622 := sf_ma tw1585 (p := 20) rfl
                                    have c1623 := sf_ma tw1585 (p := 85) rfl
                                    have c1624 := sf_ma tw1585 (p := 24) rfl
                                    have c1625 := sf_ma tw1585 (p := 86) rfl
                                    have c1626 := sf_ma tw1585 (p := 25) rfl
                                    have c1627 := sf_ma tw1585 (p := 87) rfl
                                    have c1628 := sf_ma tw1585 (p := 23) rfl
                                    have c1629 := sf_ma tw1585 (p := 88) rfl
                                    have c1630 := sf_ma tw1585 (p := 26) rfl
                                    have c1631 := sf_ma tw1585 (p := 89) rfl
                                    have c1632 := sf_ma tw1585 (p := 27) rfl
                                    have c1633 := sf_ma tw1585 (p := 90) rfl
                                    have c1634 := sf_ma tw1585 (p := 36) rfl
                                    have c1635 := sf_ma tw1585 (p := 102) rfl
                                    have c1636 := sf_ma tw1585 (p := 37) rfl
                                    have c1637 := sf_ma tw1585 (p := 103) rfl
                                    refine sf_istore (L' := [(0, .inl (.ref 100000)), (1, .inl (.ref 0)), (2, .inl (.ref 71)), (3, .inl (.ref 130)), (4, .inl (.int x4))]) rfl ?_
                                    refine sf_aload rfl ?_
                                    refine sf_aload rfl ?_
                                    refine sf_iload rfl ?_
                                    refine sf_iconst sf_c1 (fun z1638 ez1638 => ?_)
                                    refine sf_iadd (by omega) (fun v1639 ev1639 => ?_)
                                    refine sf_sldk (x := x4) (k := 1) (by omega) (by omega) (by omega) ?_
                                    clear ev1639 ez1638
                                    refine sf_aload rfl ?_
                                    refine sf_iload rfl ?_
                                    refine sf_iconst sf_c2 (fun z1640 ez1640 => ?_)
                                    refine sf_iadd (by omega) (fun v1641 ev1641 => ?_)
                                    refine sf_sldk (x := x4) (k := 2) (by omega) (by omega) (by omega) ?_
                                    clear ev1641 ez1640
                                    refine sf_aload rfl ?_
                                    refine sf_iload rfl ?_
                                    refine sf_iconst sf_c3 (fun z1642 ez1642 => ?_)
                                    refine sf_iadd (by omega) (fun v1643 ev1643 => ?_)
                                    refine sf_sldk (x := x4) (k := 3) (by omega) (by omega) (by omega) ?_
                                    clear ev1643 ez1642
                                    refine sf_aload rfl ?_
                                    refine sf_iload rfl ?_
                                    refine sf_iconst sf_c4 (fun z1644 ez1644 => ?_)
                                    refine sf_iadd (by omega) (fun v1645 ev1645 => ?_)
                                    refine sf_sldk (x := x4) (k := 4) (by omega) (by omega) (by omega) ?_
                                    clear ev1645 ez1644
                                    refine sf_aload rfl ?_
                                    refine sf_iload rfl ?_
                                    refine sf_iconst sf_c5 (fun z1646 ez1646 => ?_)
                                    refine sf_iadd (by omega) (fun v1647 ev1647 => ?_)
                                    refine sf_sldk (x := x4) (k := 5) (by omega) (by omega) (by omega) ?_
                                    clear ev1647 ez1646
                                    refine sf_aload rfl ?_
                                    refine sf_iload rfl ?_
                                    refine sf_iconst sf_c6 (fun z1648 ez1648 => ?_)
                                    refine sf_iadd (by omega) (fun v1649 ev1649 => ?_)
                                    refine sf_sldk (x := x4) (k := 6) (by omega) (by omega) (by omega) ?_
                                    clear ev1649 ez1648
                                    refine sf_aload rfl ?_
                                    refine sf_iload rfl ?_
                                    refine sf_iconst sf_c7 (fun z1650 ez1650 => ?_)
                                    refine sf_iadd (by omega) (fun v1651 ev1651 => ?_)
                                    refine sf_sldk (x := x4) (k := 7) (by omega) (by omega) (by omega) ?_
                                    clear ev1651 ez1650
                                    refine sf_f1_eq (fun h1652 => ?_) (fun h1652 => absurd h1652 (by omega))
                                    refine sf_iconst sf_c0 (fun z1653 ez1653 => ?_)
                                    refine sf_callv8 rfl (by omega) (by omega) ?_
                                    refine sf_rv Iw1585 rfl ?_
                                    refine sc_M_line Iw1585 (by omega) (by omega) (fun v1654 w1655 Iw1655 tw1655 lv1654 uv1654 => ?_)
                                    have c1657 := sf_mf tw1655 (p := 1) (j := 0) rfl
                                    have c1658 := sf_mf tw1655 (p := 71) (j := 1) rfl
                                    have c1659 := sf_mf tw1655 (p := 1) (j := 5) rfl
                                    have c1660 := sf_mf tw1655 (p := 71) (j := 5) rfl
                                    have c1661 := sf_mf tw1655 (p := 13) (j := 1) rfl
                                    have c1662 := sf_mf tw1655 (p := 71) (j := 10) rfl
                                    have c1663 := sf_mf tw1655 (p := 21) (j := 1) rfl
                                    have c1664 := sf_mf tw1655 (p := 71) (j := 18) rfl
                                    have c1665 := sf_mf tw1655 (p := 35) (j := 0) rfl
                                    have c1666 := sf_mf tw1655 (p := 71) (j := 35) rfl
                                    have c1667 := sf_ma tw1655 (p := 3) rfl
                                    have c1668 := sf_ma tw1655 (p := 72) rfl
                                    have c1669 := sf_mg tw1655 (p := 10) rfl
                                    have c1670 := sf_ma tw1655 (p := 93) rfl
                                    have c1671 := sf_mL tw1655 (p := 130) rfl
                                    have c1672 := sf_ma tw1655 (p := 2) rfl
                                    have c1673 := sf_ma tw1655 (p := 6) rfl
                                    have c1674 := sf_ma tw1655 (p := 75) rfl
                                    have c1675 := sf_ma tw1655 (p := 7) rfl
                                    have c1676 := sf_ma tw1655 (p := 76) rfl
                                    have c1677 := sf_ma tw1655 (p := 8) rfl
                                    have c1678 := sf_ma tw1655 (p := 77) rfl
                                    have c1679 := sf_ma tw1655 (p := 9) rfl
                                    have c1680 := sf_ma tw1655 (p := 78) rfl
                                    have c1681 := sf_ma tw1655 (p := 14) rfl
                                    have c1682 := sf_ma tw1655 (p := 79) rfl
                                    have c1683 := sf_ma tw1655 (p := 15) rfl
                                    have c1684 := sf_ma tw1655 (p := 80) rfl
                                    have c1685 := sf_ma tw1655 (p := 16) rfl
                                    have c1686 := sf_ma tw1655 (p := 81) rfl
                                    have c1687 := sf_ma tw1655 (p := 17) rfl
                                    have c1688 := sf_ma tw1655 (p := 82) rfl
                                    have c1689 := sf_ma tw1655 (p := 18) rfl
                                    have c1690 := sf_ma tw1655 (p := 83) rfl
                                    have c1691 := sf_ma tw1655 (p := 19) rfl
                                    have c1692 := sf_ma tw1655 (p := 84) rfl
                                    have c1693 := sf_ma tw1655 (p := 20) rfl
                                    have c1694 := sf_ma tw1655 (p := 85) rfl
                                    have c1695 := sf_ma tw1655 (p := 24) rfl
                                    have c1696 := sf_ma tw1655 (p := 86) rfl
                                    have c1697 := sf_ma tw1655 (p := 25) rfl
                                    have c1698 := sf_ma tw1655 (p := 87) rfl
                                    have c1699 := sf_ma tw1655 (p := 23) rfl
                                    have c1700 := sf_ma tw1655 (p := 88) rfl
                                    have c1701 := sf_ma tw1655 (p := 26) rfl
                                    have c1702 := sf_ma tw1655 (p := 89) rfl
                                    have c1703 := sf_ma tw1655 (p := 27) rfl
                                    have c1704 := sf_ma tw1655 (p := 90) rfl
                                    have c1705 := sf_ma tw1655 (p := 36) rfl
                                    have c1706 := sf_ma tw1655 (p := 102) rfl
                                    have c1707 := sf_ma tw1655 (p := 37) rfl
                                    have c1708 := sf_ma tw1655 (p := 103) rfl
                                    refine sf_istore (L' := [(5, .inl (.int v1584)), (0, .inl (.ref 100000)), (1, .inl (.ref 0)), (2, .inl (.ref 71)), (3, .inl (.ref 130)), (4, .inl (.int x4))]) rfl ?_
                                    show kt_W_law_1421 N xs K _ _ _ _ _
                                    refine sf_iinc (L' := [(6, .inl (.int v1654)), (5, .inl (.int v1584)), (0, .inl (.ref 100000)), (1, .inl (.ref 0)), (2, .inl (.ref 71)), (3, .inl (.ref 130))]) (x := x4) sf_c8 rfl rfl (by omega) (fun v1709 ev1709 => ?_)
                                    refine sf_can (L' := [(0, .inl (.ref 100000)), (1, .inl (.ref 0)), (2, .inl (.ref 71)), (3, .inl (.ref 130)), (4, .inl (.int v1709))]) rfl ?_
                                    exact ih _ _ _ _ Iw1655 (by omega) (by omega) (by omega) (by omega) (by rw [c1657, c1587]; rw [c1658, c1588]; rw [c1659, c1589]; rw [c1660, c1590]; rw [c1661, c1591]; rw [c1662, c1592]; rw [c1663, c1593]; rw [c1664, c1594]; rw [c1665, c1595]; rw [c1666, c1596]; omega) (by rw [c1667, c1597]; rw [c1668, c1598]; rw [c1658, c1588]; first | exact f_1 | exact hJ) (by rw [c1669, c1599]; rw [c1670, c1600]; first | exact f_2 | exact hK2) (by rw [c1672, c1601]; rw [c1668, c1598]; rw [c1658, c1588]; first | exact f_3 | exact hQ2) (by rw [c1673, c1602]; rw [c1674, c1603]; rw [c1660, c1590]; first | exact f_4 | exact hQ6) (by rw [c1675, c1604]; rw [c1676, c1605]; rw [c1660, c1590]; first | exact f_5 | exact hQ7) (by rw [c1677, c1606]; rw [c1678, c1607]; rw [c1660, c1590]; first | exact f_6 | exact hQ8) (by rw [c1679, c1608]; rw [c1680, c1609]; rw [c1660, c1590]; first | exact f_7 | exact hQ9) (by rw [c1681, c1610]; rw [c1682, c1611]; rw [c1662, c1592]; first | exact f_8 | exact hQ14) (by rw [c1683, c1612]; rw [c1684, c1613]; rw [c1662, c1592]; first | exact f_9 | exact hQ15) (by rw [c1685, c1614]; rw [c1686, c1615]; rw [c1662, c1592]; first | exact f_10 | exact hQ16) (by rw [c1687, c1616]; rw [c1688, c1617]; rw [c1662, c1592]; first | exact f_11 | exact hQ17) (by rw [c1689, c1618]; rw [c1690, c1619]; rw [c1662, c1592]; first | exact f_12 | exact hQ18) (by rw [c1691, c1620]; rw [c1692, c1621]; rw [c1662, c1592]; first | exact f_13 | exact hQ19) (by rw [c1693, c1622]; rw [c1694, c1623]; rw [c1662, c1592]; first | exact f_14 | exact hQ20) (by rw [c1695, c1624]; rw [c1696, c1625]; rw [c1664, c1594]; first | exact f_15 | exact hQ24) (by rw [c1697, c1626]; rw [c1698, c1627]; rw [c1664, c1594]; first | exact f_16 | exact hQ25) (by rw [c1699, c1628]; rw [c1700, c1629]; rw [c1664, c1594]; first | exact f_17 | exact hQ23) (by rw [c1701, c1630]; rw [c1702, c1631]; rw [c1664, c1594]; first | exact f_18 | exact hQ26) (by rw [c1703, c1632]; rw [c1704, c1633]; rw [c1664, c1594]; first | exact f_19 | exact hQ27) (by rw [c1705, c1634]; rw [c1706, c1635]; rw [c1666, c1596]; first | exact f_20 | exact hQ36) (by rw [c1707, c1636]; rw [c1708, c1637]; rw [c1666, c1596]; first | exact f_21 | exact hQ37) (by omega)
                                  · refine sf_iconst sf_c1 (fun z1710 ez1710 => ?_)
                                    show kt_W_law_909 N xs K _ _ _ _ _
                                    refine sf_aload rfl ?_
                                    refine sf_callv9 rfl (by omega) (by omega) ?_
                                    refine sc_W_line_0_130 I_w (by omega) (by omega) (fun v1711 w1712 Iw1712 tw1712 lv1711 uv1711 => ?_)
                                    have c1714 := sf_mf tw1712 (p := 1) (j := 0) rfl
                                    have c1715 := sf_mf tw1712 (p := 71) (j := 1) rfl
                                    have c1716 := sf_mf tw1712 (p := 1) (j := 5) rfl
                                    have c1717 := sf_mf tw1712 (p := 71) (j := 5) rfl
                                    have c1718 := sf_mf tw1712 (p := 13) (j := 1) rfl
                                    have c1719 := sf_mf tw1712 (p := 71) (j := 10) rfl
                                    have c1720 := sf_mf tw1712 (p := 21) (j := 1) rfl
                                    have c1721 := sf_mf tw1712 (p := 71) (j := 18) rfl
                                    have c1722 := sf_mf tw1712 (p := 35) (j := 0) rfl
                                    have c1723 := sf_mf tw1712 (p := 71) (j := 35) rfl
                                    have c1724 := sf_ma tw1712 (p := 3) rfl
                                    have c1725 := sf_ma tw1712 (p := 72) rfl
                                    have c1726 := sf_mg tw1712 (p := 10) rfl
                                    have c1727 := sf_ma tw1712 (p := 93) rfl
                                    have c1728 := sf_ma tw1712 (p := 2) rfl
                                    have c1729 := sf_ma tw1712 (p := 6) rfl
                                    have c1730 := sf_ma tw1712 (p := 75) rfl
                                    have c1731 := sf_ma tw1712 (p := 7) rfl
                                    have c1732 := sf_ma tw1712 (p := 76) rfl
                                    have c1733 := sf_ma tw1712 (p := 8) rfl
                                    have c1734 := sf_ma tw1712 (p := 77) rfl
                                    have c1735 := sf_ma tw1712 (p := 9) rfl
                                    have c1736 := sf_ma tw1712 (p := 78) rfl
                                    have c1737 := sf_ma tw1712 (p := 14) rfl
                                    have c1738 := sf_ma tw1712 (p := 79) rfl
                                    have c1739 := sf_ma tw1712 (p := 15) rfl
                                    have c1740 := sf_ma tw1712 (p := 80) rfl
                                    have c1741 := sf_ma tw1712 (p := 16) rfl
                                    have c1742 := sf_ma tw1712 (p := 81) rfl
                                    have c1743 := sf_ma tw1712 (p := 17) rfl
                                    have c1744 := sf_ma tw1712 (p := 82) rfl
                                    have c1745 := sf_ma tw1712 (p := 18) rfl
                                    have c1746 := sf_ma tw1712 (p := 83) rfl
                                    have c1747 := sf_ma tw1712 (p := 19) rfl
                                    have c1748 := sf_ma tw1712 (p := 84) rfl
                                    have c1749 := sf_ma tw1712 (p := 20) rfl
                                    have c1750 := sf_ma tw1712 (p := 85) rfl
                                    have c1751 := sf_ma tw1712 (p := 24) rfl
                                    have c1752 := sf_ma tw1712 (p := 86) rfl
                                    have c1753 := sf_ma tw1712 (p := 25) rfl
                                    have c1754 := sf_ma tw1712 (p := 87) rfl
                                    have c1755 := sf_ma tw1712 (p := 23) rfl
                                    have c1756 := sf_ma tw1712 (p := 88) rfl
                                    have c1757 := sf_ma tw1712 (p := 26) rfl
                                    have c1758 := sf_ma tw1712 (p := 89) rfl
                                    have c1759 := sf_ma tw1712 (p := 27) rfl
                                    have c1760 := sf_ma tw1712 (p := 90) rfl
                                    have c1761 := sf_ma tw1712 (p := 36) rfl
                                    have c1762 := sf_ma tw1712 (p := 102) rfl
                                    have c1763 := sf_ma tw1712 (p := 37) rfl
                                    have c1764 := sf_ma tw1712 (p := 103) rfl
                                    refine sf_istore (L' := [(0, .inl (.ref 100000)), (1, .inl (.ref 0)), (2, .inl (.ref 71)), (3, .inl (.ref 130)), (4, .inl (.int x4))]) rfl ?_
                                    refine sf_aload rfl ?_
                                    refine sf_aload rfl ?_
                                    refine sf_iload rfl ?_
                                    refine sf_iconst sf_c1 (fun z1765 ez1765 => ?_)
                                    refine sf_iadd (by omega) (fun v1766 ev1766 => ?_)
                                    refine sf_sldk (x := x4) (k := 1) (by omega) (by omega) (by omega) ?_
                                    clear ev1766 ez1765
                                    refine sf_aload rfl ?_
                                    refine sf_iload rfl ?_
                                    refine sf_iconst sf_c2 (fun z1767 ez1767 => ?_)
                                    refine sf_iadd (by omega) (fun v1768 ev1768 => ?_)
                                    refine sf_sldk (x := x4) (k := 2) (by omega) (by omega) (by omega) ?_
                                    clear ev1768 ez1767
                                    refine sf_aload rfl ?_
                                    refine sf_iload rfl ?_
                                    refine sf_iconst sf_c3 (fun z1769 ez1769 => ?_)
                                    refine sf_iadd (by omega) (fun v1770 ev1770 => ?_)
                                    refine sf_sldk (x := x4) (k := 3) (by omega) (by omega) (by omega) ?_
                                    clear ev1770 ez1769
                                    refine sf_aload rfl ?_
                                    refine sf_iload rfl ?_
                                    refine sf_iconst sf_c4 (fun z1771 ez1771 => ?_)
                                    refine sf_iadd (by omega) (fun v1772 ev1772 => ?_)
                                    refine sf_sldk (x := x4) (k := 4) (by omega) (by omega) (by omega) ?_
                                    clear ev1772 ez1771
                                    refine sf_aload rfl ?_
                                    refine sf_iload rfl ?_
                                    refine sf_iconst sf_c5 (fun z1773 ez1773 => ?_)
                                    refine sf_iadd (by omega) (fun v1774 ev1774 => ?_)
                                    refine sf_sldk (x := x4) (k := 5) (by omega) (by omega) (by omega) ?_
                                    clear ev1774 ez1773
                                    refine sf_aload rfl ?_
                                    refine sf_iload rfl ?_
                                    refine sf_iconst sf_c6 (fun z1775 ez1775 => ?_)
                                    refine sf_iadd (by omega) (fun v1776 ev1776 => ?_)
                                    refine sf_sldk (x := x4) (k := 6) (by omega) (by omega) (by omega) ?_
                                    clear ev1776 ez1775
                                    refine sf_aload rfl ?_
                                    refine sf_iload rfl ?_
                                    refine sf_iconst sf_c7 (fun z1777 ez1777 => ?_)
                                    refine sf_iadd (by omega) (fun v1778 ev1778 => ?_)
                                    refine sf_sldk (x := x4) (k := 7) (by omega) (by omega) (by omega) ?_
                                    clear ev1778 ez1777
                                    refine sf_f1_eq (fun h1779 => ?_) (fun h1779 => ?_)
                                    · refine sf_iconst sf_c0 (fun z1780 ez1780 => ?_)
                                      refine sf_callv8 rfl (by omega) (by omega) ?_
                                      refine sf_rv Iw1712 rfl ?_
                                      refine sc_M_line Iw1712 (by omega) (by omega) (fun v1781 w1782 Iw1782 tw1782 lv1781 uv1781 => ?_)
                                      have c1784 := sf_mf tw1782 (p := 1) (j := 0) rfl
                                      have c1785 := sf_mf tw1782 (p := 71) (j := 1) rfl
                                      have c1786 := sf_mf tw1782 (p := 1) (j := 5) rfl
                                      have c1787 := sf_mf tw1782 (p := 71) (j := 5) rfl
                                      have c1788 := sf_mf tw1782 (p := 13) (j := 1) rfl
                                      have c1789 := sf_mf tw1782 (p := 71) (j := 10) rfl
                                      have c1790 := sf_mf tw1782 (p := 21) (j := 1) rfl
                                      have c1791 := sf_mf tw1782 (p := 71) (j := 18) rfl
                                      have c1792 := sf_mf tw1782 (p := 35) (j := 0) rfl
                                      have c1793 := sf_mf tw1782 (p := 71) (j := 35) rfl
                                      have c1794 := sf_ma tw1782 (p := 3) rfl
                                      have c1795 := sf_ma tw1782 (p := 72) rfl
                                      have c1796 := sf_mg tw1782 (p := 10) rfl
                                      have c1797 := sf_ma tw1782 (p := 93) rfl
                                      have c1798 := sf_mL tw1782 (p := 130) rfl
                                      have c1799 := sf_ma tw1782 (p := 2) rfl
                                      have c1800 := sf_ma tw1782 (p := 6) rfl
                                      have c1801 := sf_ma tw1782 (p := 75) rfl
                                      have c1802 := sf_ma tw1782 (p := 7) rfl
                                      have c1803 := sf_ma tw1782 (p := 76) rfl
                                      have c1804 := sf_ma tw1782 (p := 8) rfl
                                      have c1805 := sf_ma tw1782 (p := 77) rfl
                                      have c1806 := sf_ma tw1782 (p := 9) rfl
                                      have c1807 := sf_ma tw1782 (p := 78) rfl
                                      have c1808 := sf_ma tw1782 (p := 14) rfl
                                      have c1809 := sf_ma tw1782 (p := 79) rfl
                                      have c1810 := sf_ma tw1782 (p := 15) rfl
                                      have c1811 := sf_ma tw1782 (p := 80) rfl
                                      have c1812 := sf_ma tw1782 (p := 16) rfl
                                      have c1813 := sf_ma tw1782 (p := 81) rfl
                                      have c1814 := sf_ma tw1782 (p := 17) rfl
                                      have c1815 := sf_ma tw1782 (p := 82) rfl
                                      have c1816 := sf_ma tw1782 (p := 18) rfl
                                      have c1817 := sf_ma tw1782 (p := 83) rfl
                                      have c1818 := sf_ma tw1782 (p := 19) rfl
                                      have c1819 := sf_ma tw1782 (p := 84) rfl
                                      have c1820 := sf_ma tw1782 (p := 20) rfl
                                      have c1821 := sf_ma tw1782 (p := 85) rfl
                                      have c1822 := sf_ma tw1782 (p := 24) rfl
                                      have c1823 := sf_ma tw1782 (p := 86) rfl
                                      have c1824 := sf_ma tw1782 (p := 25) rfl
                                      have c1825 := sf_ma tw1782 (p := 87) rfl
                                      have c1826 := sf_ma tw1782 (p := 23) rfl
                                      have c1827 := sf_ma tw1782 (p := 88) rfl
                                      have c1828 := sf_ma tw1782 (p := 26) rfl
                                      have c1829 := sf_ma tw1782 (p := 89) rfl
                                      have c1830 := sf_ma tw1782 (p := 27) rfl
                                      have c1831 := sf_ma tw1782 (p := 90) rfl
                                      have c1832 := sf_ma tw1782 (p := 36) rfl
                                      have c1833 := sf_ma tw1782 (p := 102) rfl
                                      have c1834 := sf_ma tw1782 (p := 37) rfl
                                      have c1835 := sf_ma tw1782 (p := 103) rfl
                                      refine sf_istore (L' := [(5, .inl (.int v1711)), (0, .inl (.ref 100000)), (1, .inl (.ref 0)), (2, .inl (.ref 71)), (3, .inl (.ref 130)), (4, .inl (.int x4))]) rfl ?_
                                      show kt_W_law_1421 N xs K _ _ _ _ _
                                      refine sf_iinc (L' := [(6, .inl (.int v1781)), (5, .inl (.int v1711)), (0, .inl (.ref 100000)), (1, .inl (.ref 0)), (2, .inl (.ref 71)), (3, .inl (.ref 130))]) (x := x4) sf_c8 rfl rfl (by omega) (fun v1836 ev1836 => ?_)
                                      refine sf_can (L' := [(0, .inl (.ref 100000)), (1, .inl (.ref 0)), (2, .inl (.ref 71)), (3, .inl (.ref 130)), (4, .inl (.int v1836))]) rfl ?_
                                      exact ih _ _ _ _ Iw1782 (by omega) (by omega) (by omega) (by omega) (by rw [c1784, c1714]; rw [c1785, c1715]; rw [c1786, c1716]; rw [c1787, c1717]; rw [c1788, c1718]; rw [c1789, c1719]; rw [c1790, c1720]; rw [c1791, c1721]; rw [c1792, c1722]; rw [c1793, c1723]; omega) (by rw [c1794, c1724]; rw [c1795, c1725]; rw [c1785, c1715]; first | exact f_1 | exact hJ) (by rw [c1796, c1726]; rw [c1797, c1727]; first | exact f_2 | exact hK2) (by rw [c1799, c1728]; rw [c1795, c1725]; rw [c1785, c1715]; first | exact f_3 | exact hQ2) (by rw [c1800, c1729]; rw [c1801, c1730]; rw [c1787, c1717]; first | exact f_4 | exact hQ6) (by rw [c1802, c1731]; rw [c1803, c1732]; rw [c1787, c1717]; first | exact f_5 | exact hQ7) (by rw [c1804, c1733]; rw [c1805, c1734]; rw [c1787, c1717]; first | exact f_6 | exact hQ8) (by rw [c1806, c1735]; rw [c1807, c1736]; rw [c1787, c1717]; first | exact f_7 | exact hQ9) (by rw [c1808, c1737]; rw [c1809, c1738]; rw [c1789, c1719]; first | exact f_8 | exact hQ14) (by rw [c1810, c1739]; rw [c1811, c1740]; rw [c1789, c1719]; first | exact f_9 | exact hQ15) (by rw [c1812, c1741]; rw [c1813, c1742]; rw [c1789, c1719]; first | exact f_10 | exact hQ16) (by rw [c1814, c1743]; rw [c1815, c1744]; rw [c1789, c1719]; first | exact f_11 | exact hQ17) (by rw [c1816, c1745]; rw [c1817, c1746]; rw [c1789, c1719]; first | exact f_12 | exact hQ18) (by rw [c1818, c1747]; rw [c1819, c1748]; rw [c1789, c1719]; first | exact f_13 | exact hQ19) (by rw [c1820, c1749]; rw [c1821, c1750]; rw [c1789, c1719]; first | exact f_14 | exact hQ20) (by rw [c1822, c1751]; rw [c1823, c1752]; rw [c1791, c1721]; first | exact f_15 | exact hQ24) (by rw [c1824, c1753]; rw [c1825, c1754]; rw [c1791, c1721]; first | exact f_16 | exact hQ25) (by rw [c1826, c1755]; rw [c1827, c1756]; rw [c1791, c1721]; first | exact f_17 | exact hQ23) (by rw [c1828, c1757]; rw [c1829, c1758]; rw [c1791, c1721]; first | exact f_18 | exact hQ26) (by rw [c1830, c1759]; rw [c1831, c1760]; rw [c1791, c1721]; first | exact f_19 | exact hQ27) (by rw [c1832, c1761]; rw [c1833, c1762]; rw [c1793, c1723]; first | exact f_20 | exact hQ36) (by rw [c1834, c1763]; rw [c1835, c1764]; rw [c1793, c1723]; first | exact f_21 | exact hQ37) (by omega)
                                    · refine sf_iconst sf_c1 (fun z1837 ez1837 => ?_)
                                      show kt_W_law_968 N xs K _ _ _ _ _
                                      refine sf_callv8 rfl (by omega) (by omega) ?_
                                      refine sf_rv Iw1712 rfl ?_
                                      refine sc_M_line Iw1712 (by omega) (by omega) (fun v1838 w1839 Iw1839 tw1839 lv1838 uv1838 => ?_)
                                      have c1841 := sf_mf tw1839 (p := 1) (j := 0) rfl
                                      have c1842 := sf_mf tw1839 (p := 71) (j := 1) rfl
                                      have c1843 := sf_mf tw1839 (p := 1) (j := 5) rfl
                                      have c1844 := sf_mf tw1839 (p := 71) (j := 5) rfl
                                      have c1845 := sf_mf tw1839 (p := 13) (j := 1) rfl
                                      have c1846 := sf_mf tw1839 (p := 71) (j := 10) rfl
                                      have c1847 := sf_mf tw1839 (p := 21) (j := 1) rfl
                                      have c1848 := sf_mf tw1839 (p := 71) (j := 18) rfl
                                      have c1849 := sf_mf tw1839 (p := 35) (j := 0) rfl
                                      have c1850 := sf_mf tw1839 (p := 71) (j := 35) rfl
                                      have c1851 := sf_ma tw1839 (p := 3) rfl
                                      have c1852 := sf_ma tw1839 (p := 72) rfl
                                      have c1853 := sf_mg tw1839 (p := 10) rfl
                                      have c1854 := sf_ma tw1839 (p := 93) rfl
                                      have c1855 := sf_mL tw1839 (p := 130) rfl
                                      have c1856 := sf_ma tw1839 (p := 2) rfl
                                      have c1857 := sf_ma tw1839 (p := 6) rfl
                                      have c1858 := sf_ma tw1839 (p := 75) rfl
                                      have c1859 := sf_ma tw1839 (p := 7) rfl
                                      have c1860 := sf_ma tw1839 (p := 76) rfl
                                      have c1861 := sf_ma tw1839 (p := 8) rfl
                                      have c1862 := sf_ma tw1839 (p := 77) rfl
                                      have c1863 := sf_ma tw1839 (p := 9) rfl
                                      have c1864 := sf_ma tw1839 (p := 78) rfl
                                      have c1865 := sf_ma tw1839 (p := 14) rfl
                                      have c1866 := sf_ma tw1839 (p := 79) rfl
                                      have c1867 := sf_ma tw1839 (p := 15) rfl
                                      have c1868 := sf_ma tw1839 (p := 80) rfl
                                      have c1869 := sf_ma tw1839 (p := 16) rfl
                                      have c1870 := sf_ma tw1839 (p := 81) rfl
                                      have c1871 := sf_ma tw1839 (p := 17) rfl
                                      have c1872 := sf_ma tw1839 (p := 82) rfl
                                      have c1873 := sf_ma tw1839 (p := 18) rfl
                                      have c1874 := sf_ma tw1839 (p := 83) rfl
                                      have c1875 := sf_ma tw1839 (p := 19) rfl
                                      have c1876 := sf_ma tw1839 (p := 84) rfl
                                      have c1877 := sf_ma tw1839 (p := 20) rfl
                                      have c1878 := sf_ma tw1839 (p := 85) rfl
                                      have c1879 := sf_ma tw1839 (p := 24) rfl
                                      have c1880 := sf_ma tw1839 (p := 86) rfl
                                      have c1881 := sf_ma tw1839 (p := 25) rfl
                                      have c1882 := sf_ma tw1839 (p := 87) rfl
                                      have c1883 := sf_ma tw1839 (p := 23) rfl
                                      have c1884 := sf_ma tw1839 (p := 88) rfl
                                      have c1885 := sf_ma tw1839 (p := 26) rfl
                                      have c1886 := sf_ma tw1839 (p := 89) rfl
                                      have c1887 := sf_ma tw1839 (p := 27) rfl
                                      have c1888 := sf_ma tw1839 (p := 90) rfl
                                      have c1889 := sf_ma tw1839 (p := 36) rfl
                                      have c1890 := sf_ma tw1839 (p := 102) rfl
                                      have c1891 := sf_ma tw1839 (p := 37) rfl
                                      have c1892 := sf_ma tw1839 (p := 103) rfl
                                      refine sf_istore (L' := [(5, .inl (.int v1711)), (0, .inl (.ref 100000)), (1, .inl (.ref 0)), (2, .inl (.ref 71)), (3, .inl (.ref 130)), (4, .inl (.int x4))]) rfl ?_
                                      show kt_W_law_1421 N xs K _ _ _ _ _
                                      refine sf_iinc (L' := [(6, .inl (.int v1838)), (5, .inl (.int v1711)), (0, .inl (.ref 100000)), (1, .inl (.ref 0)), (2, .inl (.ref 71)), (3, .inl (.ref 130))]) (x := x4) sf_c8 rfl rfl (by omega) (fun v1893 ev1893 => ?_)
                                      refine sf_can (L' := [(0, .inl (.ref 100000)), (1, .inl (.ref 0)), (2, .inl (.ref 71)), (3, .inl (.ref 130)), (4, .inl (.int v1893))]) rfl ?_
                                      exact ih _ _ _ _ Iw1839 (by omega) (by omega) (by omega) (by omega) (by rw [c1841, c1714]; rw [c1842, c1715]; rw [c1843, c1716]; rw [c1844, c1717]; rw [c1845, c1718]; rw [c1846, c1719]; rw [c1847, c1720]; rw [c1848, c1721]; rw [c1849, c1722]; rw [c1850, c1723]; omega) (by rw [c1851, c1724]; rw [c1852, c1725]; rw [c1842, c1715]; first | exact f_1 | exact hJ) (by rw [c1853, c1726]; rw [c1854, c1727]; first | exact f_2 | exact hK2) (by rw [c1856, c1728]; rw [c1852, c1725]; rw [c1842, c1715]; first | exact f_3 | exact hQ2) (by rw [c1857, c1729]; rw [c1858, c1730]; rw [c1844, c1717]; first | exact f_4 | exact hQ6) (by rw [c1859, c1731]; rw [c1860, c1732]; rw [c1844, c1717]; first | exact f_5 | exact hQ7) (by rw [c1861, c1733]; rw [c1862, c1734]; rw [c1844, c1717]; first | exact f_6 | exact hQ8) (by rw [c1863, c1735]; rw [c1864, c1736]; rw [c1844, c1717]; first | exact f_7 | exact hQ9) (by rw [c1865, c1737]; rw [c1866, c1738]; rw [c1846, c1719]; first | exact f_8 | exact hQ14) (by rw [c1867, c1739]; rw [c1868, c1740]; rw [c1846, c1719]; first | exact f_9 | exact hQ15) (by rw [c1869, c1741]; rw [c1870, c1742]; rw [c1846, c1719]; first | exact f_10 | exact hQ16) (by rw [c1871, c1743]; rw [c1872, c1744]; rw [c1846, c1719]; first | exact f_11 | exact hQ17) (by rw [c1873, c1745]; rw [c1874, c1746]; rw [c1846, c1719]; first | exact f_12 | exact hQ18) (by rw [c1875, c1747]; rw [c1876, c1748]; rw [c1846, c1719]; first | exact f_13 | exact hQ19) (by rw [c1877, c1749]; rw [c1878, c1750]; rw [c1846, c1719]; first | exact f_14 | exact hQ20) (by rw [c1879, c1751]; rw [c1880, c1752]; rw [c1848, c1721]; first | exact f_15 | exact hQ24) (by rw [c1881, c1753]; rw [c1882, c1754]; rw [c1848, c1721]; first | exact f_16 | exact hQ25) (by rw [c1883, c1755]; rw [c1884, c1756]; rw [c1848, c1721]; first | exact f_17 | exact hQ23) (by rw [c1885, c1757]; rw [c1886, c1758]; rw [c1848, c1721]; first | exact f_18 | exact hQ26) (by rw [c1887, c1759]; rw [c1888, c1760]; rw [c1848, c1721]; first | exact f_19 | exact hQ27) (by rw [c1889, c1761]; rw [c1890, c1762]; rw [c1850, c1723]; first | exact f_20 | exact hQ36) (by rw [c1891, c1763]; rw [c1892, c1764]; rw [c1850, c1723]; first | exact f_21 | exact hQ37) (by omega)
                                · clear h1567
                                  refine sf_sw1 sf_c14 (fun h1894 => ?_) (fun h1894 => ?_)
                                  · refine sf_aload rfl ?_
                                    refine sf_aload rfl ?_
                                    refine sf_iload rfl ?_
                                    refine sf_iconst sf_c1 (fun z1895 ez1895 => ?_)
                                    refine sf_iadd (by omega) (fun v1896 ev1896 => ?_)
                                    refine sf_sldk (x := x4) (k := 1) (by omega) (by omega) (by omega) ?_
                                    clear ev1896 ez1895
                                    refine sf_aload rfl ?_
                                    refine sf_iload rfl ?_
                                    refine sf_iconst sf_c2 (fun z1897 ez1897 => ?_)
                                    refine sf_iadd (by omega) (fun v1898 ev1898 => ?_)
                                    refine sf_sldk (x := x4) (k := 2) (by omega) (by omega) (by omega) ?_
                                    clear ev1898 ez1897
                                    refine sf_aload rfl ?_
                                    refine sf_iload rfl ?_
                                    refine sf_iconst sf_c3 (fun z1899 ez1899 => ?_)
                                    refine sf_iadd (by omega) (fun v1900 ev1900 => ?_)
                                    refine sf_sldk (x := x4) (k := 3) (by omega) (by omega) (by omega) ?_
                                    clear ev1900 ez1899
                                    refine sf_callv4 rfl (by omega) (by omega) ?_
                                    refine sc_W_charge_0 I_w  (fun v1901 w1902 Iw1902 tw1902 lv1901 uv1901 => ?_)
                                    have c1904 := sf_mf tw1902 (p := 1) (j := 0) rfl
                                    have c1905 := sf_mf tw1902 (p := 71) (j := 1) rfl
                                    have c1906 := sf_mf tw1902 (p := 1) (j := 5) rfl
                                    have c1907 := sf_mf tw1902 (p := 71) (j := 5) rfl
                                    have c1908 := sf_mf tw1902 (p := 13) (j := 1) rfl
                                    have c1909 := sf_mf tw1902 (p := 71) (j := 10) rfl
                                    have c1910 := sf_mf tw1902 (p := 21) (j := 1) rfl
                                    have c1911 := sf_mf tw1902 (p := 71) (j := 18) rfl
                                    have c1912 := sf_mf tw1902 (p := 35) (j := 0) rfl
                                    have c1913 := sf_mf tw1902 (p := 71) (j := 35) rfl
                                    have c1914 := sf_ma tw1902 (p := 3) rfl
                                    have c1915 := sf_ma tw1902 (p := 72) rfl
                                    have c1916 := sf_mg tw1902 (p := 10) rfl
                                    have c1917 := sf_ma tw1902 (p := 93) rfl
                                    have c1918 := sf_mL tw1902 (p := 130) rfl
                                    have c1919 := sf_ma tw1902 (p := 2) rfl
                                    have c1920 := sf_ma tw1902 (p := 6) rfl
                                    have c1921 := sf_ma tw1902 (p := 75) rfl
                                    have c1922 := sf_ma tw1902 (p := 7) rfl
                                    have c1923 := sf_ma tw1902 (p := 76) rfl
                                    have c1924 := sf_ma tw1902 (p := 8) rfl
                                    have c1925 := sf_ma tw1902 (p := 77) rfl
                                    have c1926 := sf_ma tw1902 (p := 9) rfl
                                    have c1927 := sf_ma tw1902 (p := 78) rfl
                                    have c1928 := sf_ma tw1902 (p := 14) rfl
                                    have c1929 := sf_ma tw1902 (p := 79) rfl
                                    have c1930 := sf_ma tw1902 (p := 15) rfl
                                    have c1931 := sf_ma tw1902 (p := 80) rfl
                                    have c1932 := sf_ma tw1902 (p := 16) rfl
                                    have c1933 := sf_ma tw1902 (p := 81) rfl
                                    have c1934 := sf_ma tw1902 (p := 17) rfl
                                    have c1935 := sf_ma tw1902 (p := 82) rfl
                                    have c1936 := sf_ma tw1902 (p := 18) rfl
                                    have c1937 := sf_ma tw1902 (p := 83) rfl
                                    have c1938 := sf_ma tw1902 (p := 19) rfl
                                    have c1939 := sf_ma tw1902 (p := 84) rfl
                                    have c1940 := sf_ma tw1902 (p := 20) rfl
                                    have c1941 := sf_ma tw1902 (p := 85) rfl
                                    have c1942 := sf_ma tw1902 (p := 24) rfl
                                    have c1943 := sf_ma tw1902 (p := 86) rfl
                                    have c1944 := sf_ma tw1902 (p := 25) rfl
                                    have c1945 := sf_ma tw1902 (p := 87) rfl
                                    have c1946 := sf_ma tw1902 (p := 23) rfl
                                    have c1947 := sf_ma tw1902 (p := 88) rfl
                                    have c1948 := sf_ma tw1902 (p := 26) rfl
                                    have c1949 := sf_ma tw1902 (p := 89) rfl
                                    have c1950 := sf_ma tw1902 (p := 27) rfl
                                    have c1951 := sf_ma tw1902 (p := 90) rfl
                                    have c1952 := sf_ma tw1902 (p := 36) rfl
                                    have c1953 := sf_ma tw1902 (p := 102) rfl
                                    have c1954 := sf_ma tw1902 (p := 37) rfl
                                    have c1955 := sf_ma tw1902 (p := 103) rfl
                                    refine sf_istore (L' := [(0, .inl (.ref 100000)), (1, .inl (.ref 0)), (2, .inl (.ref 71)), (3, .inl (.ref 130)), (4, .inl (.int x4))]) rfl ?_
                                    refine sf_aload rfl ?_
                                    refine sf_aload rfl ?_
                                    refine sf_iload rfl ?_
                                    refine sf_iconst sf_c1 (fun z1956 ez1956 => ?_)
                                    refine sf_iadd (by omega) (fun v1957 ev1957 => ?_)
                                    refine sf_sldk (x := x4) (k := 1) (by omega) (by omega) (by omega) ?_
                                    clear ev1957 ez1956
                                    refine sf_aload rfl ?_
                                    refine sf_iload rfl ?_
                                    refine sf_iconst sf_c2 (fun z1958 ez1958 => ?_)
                                    refine sf_iadd (by omega) (fun v1959 ev1959 => ?_)
                                    refine sf_sldk (x := x4) (k := 2) (by omega) (by omega) (by omega) ?_
                                    clear ev1959 ez1958
                                    refine sf_aload rfl ?_
                                    refine sf_iload rfl ?_
                                    refine sf_iconst sf_c3 (fun z1960 ez1960 => ?_)
                                    refine sf_iadd (by omega) (fun v1961 ev1961 => ?_)
                                    refine sf_sldk (x := x4) (k := 3) (by omega) (by omega) (by omega) ?_
                                    clear ev1961 ez1960
                                    refine sf_callv4 rfl (by omega) (by omega) ?_
                                    refine sf_rv Iw1902 rfl ?_
                                    refine sc_M_charge Iw1902  (fun w1962 Iw1962 tw1962 => ?_)
                                    have c1964 := sf_mf tw1962 (p := 1) (j := 0) rfl
                                    have c1965 := sf_mf tw1962 (p := 71) (j := 1) rfl
                                    have c1966 := sf_mf tw1962 (p := 1) (j := 5) rfl
                                    have c1967 := sf_mf tw1962 (p := 71) (j := 5) rfl
                                    have c1968 := sf_mf tw1962 (p := 13) (j := 1) rfl
                                    have c1969 := sf_mf tw1962 (p := 71) (j := 10) rfl
                                    have c1970 := sf_mf tw1962 (p := 21) (j := 1) rfl
                                    have c1971 := sf_mf tw1962 (p := 71) (j := 18) rfl
                                    have c1972 := sf_mf tw1962 (p := 35) (j := 0) rfl
                                    have c1973 := sf_mf tw1962 (p := 71) (j := 35) rfl
                                    have c1974 := sf_ma tw1962 (p := 3) rfl
                                    have c1975 := sf_ma tw1962 (p := 72) rfl
                                    have c1976 := sf_mg tw1962 (p := 10) rfl
                                    have c1977 := sf_ma tw1962 (p := 93) rfl
                                    have c1978 := sf_mL tw1962 (p := 130) rfl
                                    have c1979 := sf_ma tw1962 (p := 2) rfl
                                    have c1980 := sf_ma tw1962 (p := 6) rfl
                                    have c1981 := sf_ma tw1962 (p := 75) rfl
                                    have c1982 := sf_ma tw1962 (p := 7) rfl
                                    have c1983 := sf_ma tw1962 (p := 76) rfl
                                    have c1984 := sf_ma tw1962 (p := 8) rfl
                                    have c1985 := sf_ma tw1962 (p := 77) rfl
                                    have c1986 := sf_ma tw1962 (p := 9) rfl
                                    have c1987 := sf_ma tw1962 (p := 78) rfl
                                    have c1988 := sf_ma tw1962 (p := 14) rfl
                                    have c1989 := sf_ma tw1962 (p := 79) rfl
                                    have c1990 := sf_ma tw1962 (p := 15) rfl
                                    have c1991 := sf_ma tw1962 (p := 80) rfl
                                    have c1992 := sf_ma tw1962 (p := 16) rfl
                                    have c1993 := sf_ma tw1962 (p := 81) rfl
                                    have c1994 := sf_ma tw1962 (p := 17) rfl
                                    have c1995 := sf_ma tw1962 (p := 82) rfl
                                    have c1996 := sf_ma tw1962 (p := 18) rfl
                                    have c1997 := sf_ma tw1962 (p := 83) rfl
                                    have c1998 := sf_ma tw1962 (p := 19) rfl
                                    have c1999 := sf_ma tw1962 (p := 84) rfl
                                    have c2000 := sf_ma tw1962 (p := 20) rfl
                                    have c2001 := sf_ma tw1962 (p := 85) rfl
                                    have c2002 := sf_ma tw1962 (p := 24) rfl
                                    have c2003 := sf_ma tw1962 (p := 86) rfl
                                    have c2004 := sf_ma tw1962 (p := 25) rfl
                                    have c2005 := sf_ma tw1962 (p := 87) rfl
                                    have c2006 := sf_ma tw1962 (p := 23) rfl
                                    have c2007 := sf_ma tw1962 (p := 88) rfl
                                    have c2008 := sf_ma tw1962 (p := 26) rfl
                                    have c2009 := sf_ma tw1962 (p := 89) rfl
                                    have c2010 := sf_ma tw1962 (p := 27) rfl
                                    have c2011 := sf_ma tw1962 (p := 90) rfl
                                    have c2012 := sf_ma tw1962 (p := 36) rfl
                                    have c2013 := sf_ma tw1962 (p := 102) rfl
                                    have c2014 := sf_ma tw1962 (p := 37) rfl
                                    have c2015 := sf_ma tw1962 (p := 103) rfl
                                    show kt_W_law_1421 N xs K _ _ _ _ _
                                    refine sf_iinc (L' := [(5, .inl (.int v1901)), (0, .inl (.ref 100000)), (1, .inl (.ref 0)), (2, .inl (.ref 71)), (3, .inl (.ref 130))]) (x := x4) sf_c8 rfl rfl (by omega) (fun v2016 ev2016 => ?_)
                                    refine sf_can (L' := [(0, .inl (.ref 100000)), (1, .inl (.ref 0)), (2, .inl (.ref 71)), (3, .inl (.ref 130)), (4, .inl (.int v2016))]) rfl ?_
                                    exact ih _ _ _ _ Iw1962 (by omega) (by omega) (by omega) (by omega) (by rw [c1964, c1904]; rw [c1965, c1905]; rw [c1966, c1906]; rw [c1967, c1907]; rw [c1968, c1908]; rw [c1969, c1909]; rw [c1970, c1910]; rw [c1971, c1911]; rw [c1972, c1912]; rw [c1973, c1913]; omega) (by rw [c1974, c1914]; rw [c1975, c1915]; rw [c1965, c1905]; first | exact f_1 | exact hJ) (by rw [c1976, c1916]; rw [c1977, c1917]; first | exact f_2 | exact hK2) (by rw [c1979, c1919]; rw [c1975, c1915]; rw [c1965, c1905]; first | exact f_3 | exact hQ2) (by rw [c1980, c1920]; rw [c1981, c1921]; rw [c1967, c1907]; first | exact f_4 | exact hQ6) (by rw [c1982, c1922]; rw [c1983, c1923]; rw [c1967, c1907]; first | exact f_5 | exact hQ7) (by rw [c1984, c1924]; rw [c1985, c1925]; rw [c1967, c1907]; first | exact f_6 | exact hQ8) (by rw [c1986, c1926]; rw [c1987, c1927]; rw [c1967, c1907]; first | exact f_7 | exact hQ9) (by rw [c1988, c1928]; rw [c1989, c1929]; rw [c1969, c1909]; first | exact f_8 | exact hQ14) (by rw [c1990, c1930]; rw [c1991, c1931]; rw [c1969, c1909]; first | exact f_9 | exact hQ15) (by rw [c1992, c1932]; rw [c1993, c1933]; rw [c1969, c1909]; first | exact f_10 | exact hQ16) (by rw [c1994, c1934]; rw [c1995, c1935]; rw [c1969, c1909]; first | exact f_11 | exact hQ17) (by rw [c1996, c1936]; rw [c1997, c1937]; rw [c1969, c1909]; first | exact f_12 | exact hQ18) (by rw [c1998, c1938]; rw [c1999, c1939]; rw [c1969, c1909]; first | exact f_13 | exact hQ19) (by rw [c2000, c1940]; rw [c2001, c1941]; rw [c1969, c1909]; first | exact f_14 | exact hQ20) (by rw [c2002, c1942]; rw [c2003, c1943]; rw [c1971, c1911]; first | exact f_15 | exact hQ24) (by rw [c2004, c1944]; rw [c2005, c1945]; rw [c1971, c1911]; first | exact f_16 | exact hQ25) (by rw [c2006, c1946]; rw [c2007, c1947]; rw [c1971, c1911]; first | exact f_17 | exact hQ23) (by rw [c2008, c1948]; rw [c2009, c1949]; rw [c1971, c1911]; first | exact f_18 | exact hQ26) (by rw [c2010, c1950]; rw [c2011, c1951]; rw [c1971, c1911]; first | exact f_19 | exact hQ27) (by rw [c2012, c1952]; rw [c2013, c1953]; rw [c1973, c1913]; first | exact f_20 | exact hQ36) (by rw [c2014, c1954]; rw [c2015, c1955]; rw [c1973, c1913]; first | exact f_21 | exact hQ37) (by omega)
                                  · clear h1894
                                    refine sf_sw1 sf_c15 (fun h2017 => ?_) (fun h2017 => ?_)
                                    · refine sf_aload rfl ?_
                                      refine sf_aload rfl ?_
                                      refine sf_iload rfl ?_
                                      refine sf_iconst sf_c1 (fun z2018 ez2018 => ?_)
                                      refine sf_iadd (by omega) (fun v2019 ev2019 => ?_)
                                      refine sf_sldk (x := x4) (k := 1) (by omega) (by omega) (by omega) ?_
                                      clear ev2019 ez2018
                                      refine sf_aload rfl ?_
                                      refine sf_iload rfl ?_
                                      refine sf_iconst sf_c2 (fun z2020 ez2020 => ?_)
                                      refine sf_iadd (by omega) (fun v2021 ev2021 => ?_)
                                      refine sf_sldk (x := x4) (k := 2) (by omega) (by omega) (by omega) ?_
                                      clear ev2021 ez2020
                                      refine sf_aload rfl ?_
                                      refine sf_iload rfl ?_
                                      refine sf_iconst sf_c3 (fun z2022 ez2022 => ?_)
                                      refine sf_iadd (by omega) (fun v2023 ev2023 => ?_)
                                      refine sf_sldk (x := x4) (k := 3) (by omega) (by omega) (by omega) ?_
                                      clear ev2023 ez2022
                                      refine sf_aload rfl ?_
                                      refine sf_callv5 rfl (by omega) (by omega) ?_
                                      refine sc_W_lineOf_0_130 I_w  (fun v2024 w2025 Iw2025 tw2025 lv2024 uv2024 => ?_)
                                      have c2027 := sf_mf tw2025 (p := 1) (j := 0) rfl
                                      have c2028 := sf_mf tw2025 (p := 71) (j := 1) rfl
                                      have c2029 := sf_mf tw2025 (p := 1) (j := 5) rfl
                                      have c2030 := sf_mf tw2025 (p := 71) (j := 5) rfl
                                      have c2031 := sf_mf tw2025 (p := 13) (j := 1) rfl
                                      have c2032 := sf_mf tw2025 (p := 71) (j := 10) rfl
                                      have c2033 := sf_mf tw2025 (p := 21) (j := 1) rfl
                                      have c2034 := sf_mf tw2025 (p := 71) (j := 18) rfl
                                      have c2035 := sf_mf tw2025 (p := 35) (j := 0) rfl
                                      have c2036 := sf_mf tw2025 (p := 71) (j := 35) rfl
                                      have c2037 := sf_ma tw2025 (p := 3) rfl
                                      have c2038 := sf_ma tw2025 (p := 72) rfl
                                      have c2039 := sf_mg tw2025 (p := 10) rfl
                                      have c2040 := sf_ma tw2025 (p := 93) rfl
                                      have c2041 := sf_ma tw2025 (p := 2) rfl
                                      have c2042 := sf_ma tw2025 (p := 6) rfl
                                      have c2043 := sf_ma tw2025 (p := 75) rfl
                                      have c2044 := sf_ma tw2025 (p := 7) rfl
                                      have c2045 := sf_ma tw2025 (p := 76) rfl
                                      have c2046 := sf_ma tw2025 (p := 8) rfl
                                      have c2047 := sf_ma tw2025 (p := 77) rfl
                                      have c2048 := sf_ma tw2025 (p := 9) rfl
                                      have c2049 := sf_ma tw2025 (p := 78) rfl
                                      have c2050 := sf_ma tw2025 (p := 14) rfl
                                      have c2051 := sf_ma tw2025 (p := 79) rfl
                                      have c2052 := sf_ma tw2025 (p := 15) rfl
                                      have c2053 := sf_ma tw2025 (p := 80) rfl
                                      have c2054 := sf_ma tw2025 (p := 16) rfl
                                      have c2055 := sf_ma tw2025 (p := 81) rfl
                                      have c2056 := sf_ma tw2025 (p := 17) rfl
                                      have c2057 := sf_ma tw2025 (p := 82) rfl
                                      have c2058 := sf_ma tw2025 (p := 18) rfl
                                      have c2059 := sf_ma tw2025 (p := 83) rfl
                                      have c2060 := sf_ma tw2025 (p := 19) rfl
                                      have c2061 := sf_ma tw2025 (p := 84) rfl
                                      have c2062 := sf_ma tw2025 (p := 20) rfl
                                      have c2063 := sf_ma tw2025 (p := 85) rfl
                                      have c2064 := sf_ma tw2025 (p := 24) rfl
                                      have c2065 := sf_ma tw2025 (p := 86) rfl
                                      have c2066 := sf_ma tw2025 (p := 25) rfl
                                      have c2067 := sf_ma tw2025 (p := 87) rfl
                                      have c2068 := sf_ma tw2025 (p := 23) rfl
                                      have c2069 := sf_ma tw2025 (p := 88) rfl
                                      have c2070 := sf_ma tw2025 (p := 26) rfl
                                      have c2071 := sf_ma tw2025 (p := 89) rfl
                                      have c2072 := sf_ma tw2025 (p := 27) rfl
                                      have c2073 := sf_ma tw2025 (p := 90) rfl
                                      have c2074 := sf_ma tw2025 (p := 36) rfl
                                      have c2075 := sf_ma tw2025 (p := 102) rfl
                                      have c2076 := sf_ma tw2025 (p := 37) rfl
                                      have c2077 := sf_ma tw2025 (p := 103) rfl
                                      refine sf_istore (L' := [(0, .inl (.ref 100000)), (1, .inl (.ref 0)), (2, .inl (.ref 71)), (3, .inl (.ref 130)), (4, .inl (.int x4))]) rfl ?_
                                      refine sf_aload rfl ?_
                                      refine sf_aload rfl ?_
                                      refine sf_iload rfl ?_
                                      refine sf_iconst sf_c1 (fun z2078 ez2078 => ?_)
                                      refine sf_iadd (by omega) (fun v2079 ev2079 => ?_)
                                      refine sf_sldk (x := x4) (k := 1) (by omega) (by omega) (by omega) ?_
                                      clear ev2079 ez2078
                                      refine sf_aload rfl ?_
                                      refine sf_iload rfl ?_
                                      refine sf_iconst sf_c2 (fun z2080 ez2080 => ?_)
                                      refine sf_iadd (by omega) (fun v2081 ev2081 => ?_)
                                      refine sf_sldk (x := x4) (k := 2) (by omega) (by omega) (by omega) ?_
                                      clear ev2081 ez2080
                                      refine sf_aload rfl ?_
                                      refine sf_iload rfl ?_
                                      refine sf_iconst sf_c3 (fun z2082 ez2082 => ?_)
                                      refine sf_iadd (by omega) (fun v2083 ev2083 => ?_)
                                      refine sf_sldk (x := x4) (k := 3) (by omega) (by omega) (by omega) ?_
                                      clear ev2083 ez2082
                                      refine sf_callv4 rfl (by omega) (by omega) ?_
                                      refine sf_rv Iw2025 rfl ?_
                                      refine sc_M_lineOf Iw2025  (fun v2084 w2085 Iw2085 tw2085 => ?_)
                                      have c2087 := sf_mf tw2085 (p := 1) (j := 0) rfl
                                      have c2088 := sf_mf tw2085 (p := 71) (j := 1) rfl
                                      have c2089 := sf_mf tw2085 (p := 1) (j := 5) rfl
                                      have c2090 := sf_mf tw2085 (p := 71) (j := 5) rfl
                                      have c2091 := sf_mf tw2085 (p := 13) (j := 1) rfl
                                      have c2092 := sf_mf tw2085 (p := 71) (j := 10) rfl
                                      have c2093 := sf_mf tw2085 (p := 21) (j := 1) rfl
                                      have c2094 := sf_mf tw2085 (p := 71) (j := 18) rfl
                                      have c2095 := sf_mf tw2085 (p := 35) (j := 0) rfl
                                      have c2096 := sf_mf tw2085 (p := 71) (j := 35) rfl
                                      have c2097 := sf_ma tw2085 (p := 3) rfl
                                      have c2098 := sf_ma tw2085 (p := 72) rfl
                                      have c2099 := sf_mg tw2085 (p := 10) rfl
                                      have c2100 := sf_ma tw2085 (p := 93) rfl
                                      have c2101 := sf_mL tw2085 (p := 130) rfl
                                      have c2102 := sf_ma tw2085 (p := 2) rfl
                                      have c2103 := sf_ma tw2085 (p := 6) rfl
                                      have c2104 := sf_ma tw2085 (p := 75) rfl
                                      have c2105 := sf_ma tw2085 (p := 7) rfl
                                      have c2106 := sf_ma tw2085 (p := 76) rfl
                                      have c2107 := sf_ma tw2085 (p := 8) rfl
                                      have c2108 := sf_ma tw2085 (p := 77) rfl
                                      have c2109 := sf_ma tw2085 (p := 9) rfl
                                      have c2110 := sf_ma tw2085 (p := 78) rfl
                                      have c2111 := sf_ma tw2085 (p := 14) rfl
                                      have c2112 := sf_ma tw2085 (p := 79) rfl
                                      have c2113 := sf_ma tw2085 (p := 15) rfl
                                      have c2114 := sf_ma tw2085 (p := 80) rfl
                                      have c2115 := sf_ma tw2085 (p := 16) rfl
                                      have c2116 := sf_ma tw2085 (p := 81) rfl
                                      have c2117 := sf_ma tw2085 (p := 17) rfl
                                      have c2118 := sf_ma tw2085 (p := 82) rfl
                                      have c2119 := sf_ma tw2085 (p := 18) rfl
                                      have c2120 := sf_ma tw2085 (p := 83) rfl
                                      have c2121 := sf_ma tw2085 (p := 19) rfl
                                      have c2122 := sf_ma tw2085 (p := 84) rfl
                                      have c2123 := sf_ma tw2085 (p := 20) rfl
                                      have c2124 := sf_ma tw2085 (p := 85) rfl
                                      have c2125 := sf_ma tw2085 (p := 24) rfl
                                      have c2126 := sf_ma tw2085 (p := 86) rfl
                                      have c2127 := sf_ma tw2085 (p := 25) rfl
                                      have c2128 := sf_ma tw2085 (p := 87) rfl
                                      have c2129 := sf_ma tw2085 (p := 23) rfl
                                      have c2130 := sf_ma tw2085 (p := 88) rfl
                                      have c2131 := sf_ma tw2085 (p := 26) rfl
                                      have c2132 := sf_ma tw2085 (p := 89) rfl
                                      have c2133 := sf_ma tw2085 (p := 27) rfl
                                      have c2134 := sf_ma tw2085 (p := 90) rfl
                                      have c2135 := sf_ma tw2085 (p := 36) rfl
                                      have c2136 := sf_ma tw2085 (p := 102) rfl
                                      have c2137 := sf_ma tw2085 (p := 37) rfl
                                      have c2138 := sf_ma tw2085 (p := 103) rfl
                                      refine sf_lstore (L' := [(5, .inl (.int v2024)), (0, .inl (.ref 100000)), (1, .inl (.ref 0)), (2, .inl (.ref 71)), (3, .inl (.ref 130)), (4, .inl (.int x4))]) rfl ?_
                                      show kt_W_law_1421 N xs K _ _ _ _ _
                                      refine sf_iinc (L' := [(6, .inl (.long v2084)), (5, .inl (.int v2024)), (0, .inl (.ref 100000)), (1, .inl (.ref 0)), (2, .inl (.ref 71)), (3, .inl (.ref 130))]) (x := x4) sf_c8 rfl rfl (by omega) (fun v2139 ev2139 => ?_)
                                      refine sf_can (L' := [(0, .inl (.ref 100000)), (1, .inl (.ref 0)), (2, .inl (.ref 71)), (3, .inl (.ref 130)), (4, .inl (.int v2139))]) rfl ?_
                                      exact ih _ _ _ _ Iw2085 (by omega) (by omega) (by omega) (by omega) (by rw [c2087, c2027]; rw [c2088, c2028]; rw [c2089, c2029]; rw [c2090, c2030]; rw [c2091, c2031]; rw [c2092, c2032]; rw [c2093, c2033]; rw [c2094, c2034]; rw [c2095, c2035]; rw [c2096, c2036]; omega) (by rw [c2097, c2037]; rw [c2098, c2038]; rw [c2088, c2028]; first | exact f_1 | exact hJ) (by rw [c2099, c2039]; rw [c2100, c2040]; first | exact f_2 | exact hK2) (by rw [c2102, c2041]; rw [c2098, c2038]; rw [c2088, c2028]; first | exact f_3 | exact hQ2) (by rw [c2103, c2042]; rw [c2104, c2043]; rw [c2090, c2030]; first | exact f_4 | exact hQ6) (by rw [c2105, c2044]; rw [c2106, c2045]; rw [c2090, c2030]; first | exact f_5 | exact hQ7) (by rw [c2107, c2046]; rw [c2108, c2047]; rw [c2090, c2030]; first | exact f_6 | exact hQ8) (by rw [c2109, c2048]; rw [c2110, c2049]; rw [c2090, c2030]; first | exact f_7 | exact hQ9) (by rw [c2111, c2050]; rw [c2112, c2051]; rw [c2092, c2032]; first | exact f_8 | exact hQ14) (by rw [c2113, c2052]; rw [c2114, c2053]; rw [c2092, c2032]; first | exact f_9 | exact hQ15) (by rw [c2115, c2054]; rw [c2116, c2055]; rw [c2092, c2032]; first | exact f_10 | exact hQ16) (by rw [c2117, c2056]; rw [c2118, c2057]; rw [c2092, c2032]; first | exact f_11 | exact hQ17) (by rw [c2119, c2058]; rw [c2120, c2059]; rw [c2092, c2032]; first | exact f_12 | exact hQ18) (by rw [c2121, c2060]; rw [c2122, c2061]; rw [c2092, c2032]; first | exact f_13 | exact hQ19) (by rw [c2123, c2062]; rw [c2124, c2063]; rw [c2092, c2032]; first | exact f_14 | exact hQ20) (by rw [c2125, c2064]; rw [c2126, c2065]; rw [c2094, c2034]; first | exact f_15 | exact hQ24) (by rw [c2127, c2066]; rw [c2128, c2067]; rw [c2094, c2034]; first | exact f_16 | exact hQ25) (by rw [c2129, c2068]; rw [c2130, c2069]; rw [c2094, c2034]; first | exact f_17 | exact hQ23) (by rw [c2131, c2070]; rw [c2132, c2071]; rw [c2094, c2034]; first | exact f_18 | exact hQ26) (by rw [c2133, c2072]; rw [c2134, c2073]; rw [c2094, c2034]; first | exact f_19 | exact hQ27) (by rw [c2135, c2074]; rw [c2136, c2075]; rw [c2096, c2036]; first | exact f_20 | exact hQ36) (by rw [c2137, c2076]; rw [c2138, c2077]; rw [c2096, c2036]; first | exact f_21 | exact hQ37) (by omega)
                                    · clear h2017
                                      refine sf_sw1 sf_c16 (fun h2140 => ?_) (fun h2140 => ?_)
                                      · refine sf_aload rfl ?_
                                        refine sf_aload rfl ?_
                                        refine sf_iload rfl ?_
                                        refine sf_iconst sf_c1 (fun z2141 ez2141 => ?_)
                                        refine sf_iadd (by omega) (fun v2142 ev2142 => ?_)
                                        refine sf_sldk (x := x4) (k := 1) (by omega) (by omega) (by omega) ?_
                                        clear ev2142 ez2141
                                        refine sf_aload rfl ?_
                                        refine sf_callv3 rfl (by omega) (by omega) ?_
                                        refine sc_W_accept_0_130 I_w  (fun v2143 w2144 Iw2144 tw2144 lv2143 uv2143 => ?_)
                                        have c2146 := sf_mf tw2144 (p := 1) (j := 0) rfl
                                        have c2147 := sf_mf tw2144 (p := 71) (j := 1) rfl
                                        have c2148 := sf_mf tw2144 (p := 1) (j := 5) rfl
                                        have c2149 := sf_mf tw2144 (p := 71) (j := 5) rfl
                                        have c2150 := sf_mf tw2144 (p := 13) (j := 1) rfl
                                        have c2151 := sf_mf tw2144 (p := 71) (j := 10) rfl
                                        have c2152 := sf_mf tw2144 (p := 21) (j := 1) rfl
                                        have c2153 := sf_mf tw2144 (p := 71) (j := 18) rfl
                                        have c2154 := sf_mf tw2144 (p := 35) (j := 0) rfl
                                        have c2155 := sf_mf tw2144 (p := 71) (j := 35) rfl
                                        have c2156 := sf_ma tw2144 (p := 3) rfl
                                        have c2157 := sf_ma tw2144 (p := 72) rfl
                                        have c2158 := sf_mg tw2144 (p := 10) rfl
                                        have c2159 := sf_ma tw2144 (p := 93) rfl
                                        have c2160 := sf_ma tw2144 (p := 2) rfl
                                        have c2161 := sf_ma tw2144 (p := 6) rfl
                                        have c2162 := sf_ma tw2144 (p := 75) rfl
                                        have c2163 := sf_ma tw2144 (p := 7) rfl
                                        have c2164 := sf_ma tw2144 (p := 76) rfl
                                        have c2165 := sf_ma tw2144 (p := 8) rfl
                                        have c2166 := sf_ma tw2144 (p := 77) rfl
                                        have c2167 := sf_ma tw2144 (p := 9) rfl
                                        have c2168 := sf_ma tw2144 (p := 78) rfl
                                        have c2169 := sf_ma tw2144 (p := 14) rfl
                                        have c2170 := sf_ma tw2144 (p := 79) rfl
                                        have c2171 := sf_ma tw2144 (p := 15) rfl
                                        have c2172 := sf_ma tw2144 (p := 80) rfl
                                        have c2173 := sf_ma tw2144 (p := 16) rfl
                                        have c2174 := sf_ma tw2144 (p := 81) rfl
                                        have c2175 := sf_ma tw2144 (p := 17) rfl
                                        have c2176 := sf_ma tw2144 (p := 82) rfl
                                        have c2177 := sf_ma tw2144 (p := 18) rfl
                                        have c2178 := sf_ma tw2144 (p := 83) rfl
                                        have c2179 := sf_ma tw2144 (p := 19) rfl
                                        have c2180 := sf_ma tw2144 (p := 84) rfl
                                        have c2181 := sf_ma tw2144 (p := 20) rfl
                                        have c2182 := sf_ma tw2144 (p := 85) rfl
                                        have c2183 := sf_ma tw2144 (p := 24) rfl
                                        have c2184 := sf_ma tw2144 (p := 86) rfl
                                        have c2185 := sf_ma tw2144 (p := 25) rfl
                                        have c2186 := sf_ma tw2144 (p := 87) rfl
                                        have c2187 := sf_ma tw2144 (p := 23) rfl
                                        have c2188 := sf_ma tw2144 (p := 88) rfl
                                        have c2189 := sf_ma tw2144 (p := 26) rfl
                                        have c2190 := sf_ma tw2144 (p := 89) rfl
                                        have c2191 := sf_ma tw2144 (p := 27) rfl
                                        have c2192 := sf_ma tw2144 (p := 90) rfl
                                        have c2193 := sf_ma tw2144 (p := 36) rfl
                                        have c2194 := sf_ma tw2144 (p := 102) rfl
                                        have c2195 := sf_ma tw2144 (p := 37) rfl
                                        have c2196 := sf_ma tw2144 (p := 103) rfl
                                        refine sf_istore (L' := [(0, .inl (.ref 100000)), (1, .inl (.ref 0)), (2, .inl (.ref 71)), (3, .inl (.ref 130)), (4, .inl (.int x4))]) rfl ?_
                                        refine sf_aload rfl ?_
                                        refine sf_aload rfl ?_
                                        refine sf_iload rfl ?_
                                        refine sf_iconst sf_c1 (fun z2197 ez2197 => ?_)
                                        refine sf_iadd (by omega) (fun v2198 ev2198 => ?_)
                                        refine sf_sldk (x := x4) (k := 1) (by omega) (by omega) (by omega) ?_
                                        clear ev2198 ez2197
                                        refine sf_callv2 rfl (by omega) (by omega) ?_
                                        refine sf_rv Iw2144 rfl ?_
                                        refine sc_M_accept Iw2144  (fun v2199 w2200 Iw2200 tw2200 => ?_)
                                        have c2202 := sf_mf tw2200 (p := 1) (j := 0) rfl
                                        have c2203 := sf_mf tw2200 (p := 71) (j := 1) rfl
                                        have c2204 := sf_mf tw2200 (p := 1) (j := 5) rfl
                                        have c2205 := sf_mf tw2200 (p := 71) (j := 5) rfl
                                        have c2206 := sf_mf tw2200 (p := 13) (j := 1) rfl
                                        have c2207 := sf_mf tw2200 (p := 71) (j := 10) rfl
                                        have c2208 := sf_mf tw2200 (p := 21) (j := 1) rfl
                                        have c2209 := sf_mf tw2200 (p := 71) (j := 18) rfl
                                        have c2210 := sf_mf tw2200 (p := 35) (j := 0) rfl
                                        have c2211 := sf_mf tw2200 (p := 71) (j := 35) rfl
                                        have c2212 := sf_ma tw2200 (p := 3) rfl
                                        have c2213 := sf_ma tw2200 (p := 72) rfl
                                        have c2214 := sf_mg tw2200 (p := 10) rfl
                                        have c2215 := sf_ma tw2200 (p := 93) rfl
                                        have c2216 := sf_mL tw2200 (p := 130) rfl
                                        have c2217 := sf_ma tw2200 (p := 2) rfl
                                        have c2218 := sf_ma tw2200 (p := 6) rfl
                                        have c2219 := sf_ma tw2200 (p := 75) rfl
                                        have c2220 := sf_ma tw2200 (p := 7) rfl
                                        have c2221 := sf_ma tw2200 (p := 76) rfl
                                        have c2222 := sf_ma tw2200 (p := 8) rfl
                                        have c2223 := sf_ma tw2200 (p := 77) rfl
                                        have c2224 := sf_ma tw2200 (p := 9) rfl
                                        have c2225 := sf_ma tw2200 (p := 78) rfl
                                        have c2226 := sf_ma tw2200 (p := 14) rfl
                                        have c2227 := sf_ma tw2200 (p := 79) rfl
                                        have c2228 := sf_ma tw2200 (p := 15) rfl
                                        have c2229 := sf_ma tw2200 (p := 80) rfl
                                        have c2230 := sf_ma tw2200 (p := 16) rfl
                                        have c2231 := sf_ma tw2200 (p := 81) rfl
                                        have c2232 := sf_ma tw2200 (p := 17) rfl
                                        have c2233 := sf_ma tw2200 (p := 82) rfl
                                        have c2234 := sf_ma tw2200 (p := 18) rfl
                                        have c2235 := sf_ma tw2200 (p := 83) rfl
                                        have c2236 := sf_ma tw2200 (p := 19) rfl
                                        have c2237 := sf_ma tw2200 (p := 84) rfl
                                        have c2238 := sf_ma tw2200 (p := 20) rfl
                                        have c2239 := sf_ma tw2200 (p := 85) rfl
                                        have c2240 := sf_ma tw2200 (p := 24) rfl
                                        have c2241 := sf_ma tw2200 (p := 86) rfl
                                        have c2242 := sf_ma tw2200 (p := 25) rfl
                                        have c2243 := sf_ma tw2200 (p := 87) rfl
                                        have c2244 := sf_ma tw2200 (p := 23) rfl
                                        have c2245 := sf_ma tw2200 (p := 88) rfl
                                        have c2246 := sf_ma tw2200 (p := 26) rfl
                                        have c2247 := sf_ma tw2200 (p := 89) rfl
                                        have c2248 := sf_ma tw2200 (p := 27) rfl
                                        have c2249 := sf_ma tw2200 (p := 90) rfl
                                        have c2250 := sf_ma tw2200 (p := 36) rfl
                                        have c2251 := sf_ma tw2200 (p := 102) rfl
                                        have c2252 := sf_ma tw2200 (p := 37) rfl
                                        have c2253 := sf_ma tw2200 (p := 103) rfl
                                        refine sf_lstore (L' := [(5, .inl (.int v2143)), (0, .inl (.ref 100000)), (1, .inl (.ref 0)), (2, .inl (.ref 71)), (3, .inl (.ref 130)), (4, .inl (.int x4))]) rfl ?_
                                        show kt_W_law_1421 N xs K _ _ _ _ _
                                        refine sf_iinc (L' := [(6, .inl (.long v2199)), (5, .inl (.int v2143)), (0, .inl (.ref 100000)), (1, .inl (.ref 0)), (2, .inl (.ref 71)), (3, .inl (.ref 130))]) (x := x4) sf_c8 rfl rfl (by omega) (fun v2254 ev2254 => ?_)
                                        refine sf_can (L' := [(0, .inl (.ref 100000)), (1, .inl (.ref 0)), (2, .inl (.ref 71)), (3, .inl (.ref 130)), (4, .inl (.int v2254))]) rfl ?_
                                        exact ih _ _ _ _ Iw2200 (by omega) (by omega) (by omega) (by omega) (by rw [c2202, c2146]; rw [c2203, c2147]; rw [c2204, c2148]; rw [c2205, c2149]; rw [c2206, c2150]; rw [c2207, c2151]; rw [c2208, c2152]; rw [c2209, c2153]; rw [c2210, c2154]; rw [c2211, c2155]; omega) (by rw [c2212, c2156]; rw [c2213, c2157]; rw [c2203, c2147]; first | exact f_1 | exact hJ) (by rw [c2214, c2158]; rw [c2215, c2159]; first | exact f_2 | exact hK2) (by rw [c2217, c2160]; rw [c2213, c2157]; rw [c2203, c2147]; first | exact f_3 | exact hQ2) (by rw [c2218, c2161]; rw [c2219, c2162]; rw [c2205, c2149]; first | exact f_4 | exact hQ6) (by rw [c2220, c2163]; rw [c2221, c2164]; rw [c2205, c2149]; first | exact f_5 | exact hQ7) (by rw [c2222, c2165]; rw [c2223, c2166]; rw [c2205, c2149]; first | exact f_6 | exact hQ8) (by rw [c2224, c2167]; rw [c2225, c2168]; rw [c2205, c2149]; first | exact f_7 | exact hQ9) (by rw [c2226, c2169]; rw [c2227, c2170]; rw [c2207, c2151]; first | exact f_8 | exact hQ14) (by rw [c2228, c2171]; rw [c2229, c2172]; rw [c2207, c2151]; first | exact f_9 | exact hQ15) (by rw [c2230, c2173]; rw [c2231, c2174]; rw [c2207, c2151]; first | exact f_10 | exact hQ16) (by rw [c2232, c2175]; rw [c2233, c2176]; rw [c2207, c2151]; first | exact f_11 | exact hQ17) (by rw [c2234, c2177]; rw [c2235, c2178]; rw [c2207, c2151]; first | exact f_12 | exact hQ18) (by rw [c2236, c2179]; rw [c2237, c2180]; rw [c2207, c2151]; first | exact f_13 | exact hQ19) (by rw [c2238, c2181]; rw [c2239, c2182]; rw [c2207, c2151]; first | exact f_14 | exact hQ20) (by rw [c2240, c2183]; rw [c2241, c2184]; rw [c2209, c2153]; first | exact f_15 | exact hQ24) (by rw [c2242, c2185]; rw [c2243, c2186]; rw [c2209, c2153]; first | exact f_16 | exact hQ25) (by rw [c2244, c2187]; rw [c2245, c2188]; rw [c2209, c2153]; first | exact f_17 | exact hQ23) (by rw [c2246, c2189]; rw [c2247, c2190]; rw [c2209, c2153]; first | exact f_18 | exact hQ26) (by rw [c2248, c2191]; rw [c2249, c2192]; rw [c2209, c2153]; first | exact f_19 | exact hQ27) (by rw [c2250, c2193]; rw [c2251, c2194]; rw [c2211, c2155]; first | exact f_20 | exact hQ36) (by rw [c2252, c2195]; rw [c2253, c2196]; rw [c2211, c2155]; first | exact f_21 | exact hQ37) (by omega)
                                      · clear h2140
                                        refine sf_sw1 sf_c17 (fun h2255 => ?_) (fun h2255 => ?_)
                                        · refine sf_aload rfl ?_
                                          refine sf_aload rfl ?_
                                          refine sf_iload rfl ?_
                                          refine sf_iconst sf_c1 (fun z2256 ez2256 => ?_)
                                          refine sf_iadd (by omega) (fun v2257 ev2257 => ?_)
                                          refine sf_sldk (x := x4) (k := 1) (by omega) (by omega) (by omega) ?_
                                          clear ev2257 ez2256
                                          refine sf_aload rfl ?_
                                          refine sf_iload rfl ?_
                                          refine sf_iconst sf_c2 (fun z2258 ez2258 => ?_)
                                          refine sf_iadd (by omega) (fun v2259 ev2259 => ?_)
                                          refine sf_sldk (x := x4) (k := 2) (by omega) (by omega) (by omega) ?_
                                          clear ev2259 ez2258
                                          refine sf_aload rfl ?_
                                          refine sf_iload rfl ?_
                                          refine sf_iconst sf_c3 (fun z2260 ez2260 => ?_)
                                          refine sf_iadd (by omega) (fun v2261 ev2261 => ?_)
                                          refine sf_sldk (x := x4) (k := 3) (by omega) (by omega) (by omega) ?_
                                          clear ev2261 ez2260
                                          refine sf_aload rfl ?_
                                          refine sf_iload rfl ?_
                                          refine sf_iconst sf_c4 (fun z2262 ez2262 => ?_)
                                          refine sf_iadd (by omega) (fun v2263 ev2263 => ?_)
                                          refine sf_sldk (x := x4) (k := 4) (by omega) (by omega) (by omega) ?_
                                          clear ev2263 ez2262
                                          refine sf_aload rfl ?_
                                          refine sf_callv6 rfl (by omega) (by omega) ?_
                                          refine sc_W_amend_0_130 I_w  (fun v2264 w2265 Iw2265 tw2265 lv2264 uv2264 => ?_)
                                          have c2267 := sf_mf tw2265 (p := 1) (j := 0) rfl
                                          have c2268 := sf_mf tw2265 (p := 71) (j := 1) rfl
                                          have c2269 := sf_mf tw2265 (p := 1) (j := 5) rfl
                                          have c2270 := sf_mf tw2265 (p := 71) (j := 5) rfl
                                          have c2271 := sf_mf tw2265 (p := 13) (j := 1) rfl
                                          have c2272 := sf_mf tw2265 (p := 71) (j := 10) rfl
                                          have c2273 := sf_mf tw2265 (p := 21) (j := 1) rfl
                                          have c2274 := sf_mf tw2265 (p := 71) (j := 18) rfl
                                          have c2275 := sf_mf tw2265 (p := 35) (j := 0) rfl
                                          have c2276 := sf_mf tw2265 (p := 71) (j := 35) rfl
                                          have c2277 := sf_ma tw2265 (p := 3) rfl
                                          have c2278 := sf_ma tw2265 (p := 72) rfl
                                          have c2279 := sf_mg tw2265 (p := 10) rfl
                                          have c2280 := sf_ma tw2265 (p := 93) rfl
                                          have c2281 := sf_ma tw2265 (p := 2) rfl
                                          have c2282 := sf_ma tw2265 (p := 6) rfl
                                          have c2283 := sf_ma tw2265 (p := 75) rfl
                                          have c2284 := sf_ma tw2265 (p := 7) rfl
                                          have c2285 := sf_ma tw2265 (p := 76) rfl
                                          have c2286 := sf_ma tw2265 (p := 8) rfl
                                          have c2287 := sf_ma tw2265 (p := 77) rfl
                                          have c2288 := sf_ma tw2265 (p := 9) rfl
                                          have c2289 := sf_ma tw2265 (p := 78) rfl
                                          have c2290 := sf_ma tw2265 (p := 14) rfl
                                          have c2291 := sf_ma tw2265 (p := 79) rfl
                                          have c2292 := sf_ma tw2265 (p := 15) rfl
                                          have c2293 := sf_ma tw2265 (p := 80) rfl
                                          have c2294 := sf_ma tw2265 (p := 16) rfl
                                          have c2295 := sf_ma tw2265 (p := 81) rfl
                                          have c2296 := sf_ma tw2265 (p := 17) rfl
                                          have c2297 := sf_ma tw2265 (p := 82) rfl
                                          have c2298 := sf_ma tw2265 (p := 18) rfl
                                          have c2299 := sf_ma tw2265 (p := 83) rfl
                                          have c2300 := sf_ma tw2265 (p := 19) rfl
                                          have c2301 := sf_ma tw2265 (p := 84) rfl
                                          have c2302 := sf_ma tw2265 (p := 20) rfl
                                          have c2303 := sf_ma tw2265 (p := 85) rfl
                                          have c2304 := sf_ma tw2265 (p := 24) rfl
                                          have c2305 := sf_ma tw2265 (p := 86) rfl
                                          have c2306 := sf_ma tw2265 (p := 25) rfl
                                          have c2307 := sf_ma tw2265 (p := 87) rfl
                                          have c2308 := sf_ma tw2265 (p := 23) rfl
                                          have c2309 := sf_ma tw2265 (p := 88) rfl
                                          have c2310 := sf_ma tw2265 (p := 26) rfl
                                          have c2311 := sf_ma tw2265 (p := 89) rfl
                                          have c2312 := sf_ma tw2265 (p := 27) rfl
                                          have c2313 := sf_ma tw2265 (p := 90) rfl
                                          have c2314 := sf_ma tw2265 (p := 36) rfl
                                          have c2315 := sf_ma tw2265 (p := 102) rfl
                                          have c2316 := sf_ma tw2265 (p := 37) rfl
                                          have c2317 := sf_ma tw2265 (p := 103) rfl
                                          refine sf_istore (L' := [(0, .inl (.ref 100000)), (1, .inl (.ref 0)), (2, .inl (.ref 71)), (3, .inl (.ref 130)), (4, .inl (.int x4))]) rfl ?_
                                          refine sf_aload rfl ?_
                                          refine sf_aload rfl ?_
                                          refine sf_iload rfl ?_
                                          refine sf_iconst sf_c1 (fun z2318 ez2318 => ?_)
                                          refine sf_iadd (by omega) (fun v2319 ev2319 => ?_)
                                          refine sf_sldk (x := x4) (k := 1) (by omega) (by omega) (by omega) ?_
                                          clear ev2319 ez2318
                                          refine sf_aload rfl ?_
                                          refine sf_iload rfl ?_
                                          refine sf_iconst sf_c2 (fun z2320 ez2320 => ?_)
                                          refine sf_iadd (by omega) (fun v2321 ev2321 => ?_)
                                          refine sf_sldk (x := x4) (k := 2) (by omega) (by omega) (by omega) ?_
                                          clear ev2321 ez2320
                                          refine sf_aload rfl ?_
                                          refine sf_iload rfl ?_
                                          refine sf_iconst sf_c3 (fun z2322 ez2322 => ?_)
                                          refine sf_iadd (by omega) (fun v2323 ev2323 => ?_)
                                          refine sf_sldk (x := x4) (k := 3) (by omega) (by omega) (by omega) ?_
                                          clear ev2323 ez2322
                                          refine sf_aload rfl ?_
                                          refine sf_iload rfl ?_
                                          refine sf_iconst sf_c4 (fun z2324 ez2324 => ?_)
                                          refine sf_iadd (by omega) (fun v2325 ev2325 => ?_)
                                          refine sf_sldk (x := x4) (k := 4) (by omega) (by omega) (by omega) ?_
                                          clear ev2325 ez2324
                                          refine sf_callv5 rfl (by omega) (by omega) ?_
                                          refine sf_rv Iw2265 rfl ?_
                                          refine sc_M_amend Iw2265  (fun v2326 w2327 Iw2327 tw2327 => ?_)
                                          have c2329 := sf_mf tw2327 (p := 1) (j := 0) rfl
                                          have c2330 := sf_mf tw2327 (p := 71) (j := 1) rfl
                                          have c2331 := sf_mf tw2327 (p := 1) (j := 5) rfl
                                          have c2332 := sf_mf tw2327 (p := 71) (j := 5) rfl
                                          have c2333 := sf_mf tw2327 (p := 13) (j := 1) rfl
                                          have c2334 := sf_mf tw2327 (p := 71) (j := 10) rfl
                                          have c2335 := sf_mf tw2327 (p := 21) (j := 1) rfl
                                          have c2336 := sf_mf tw2327 (p := 71) (j := 18) rfl
                                          have c2337 := sf_mf tw2327 (p := 35) (j := 0) rfl
                                          have c2338 := sf_mf tw2327 (p := 71) (j := 35) rfl
                                          have c2339 := sf_ma tw2327 (p := 3) rfl
                                          have c2340 := sf_ma tw2327 (p := 72) rfl
                                          have c2341 := sf_mg tw2327 (p := 10) rfl
                                          have c2342 := sf_ma tw2327 (p := 93) rfl
                                          have c2343 := sf_mL tw2327 (p := 130) rfl
                                          have c2344 := sf_ma tw2327 (p := 2) rfl
                                          have c2345 := sf_ma tw2327 (p := 6) rfl
                                          have c2346 := sf_ma tw2327 (p := 75) rfl
                                          have c2347 := sf_ma tw2327 (p := 7) rfl
                                          have c2348 := sf_ma tw2327 (p := 76) rfl
                                          have c2349 := sf_ma tw2327 (p := 8) rfl
                                          have c2350 := sf_ma tw2327 (p := 77) rfl
                                          have c2351 := sf_ma tw2327 (p := 9) rfl
                                          have c2352 := sf_ma tw2327 (p := 78) rfl
                                          have c2353 := sf_ma tw2327 (p := 14) rfl
                                          have c2354 := sf_ma tw2327 (p := 79) rfl
                                          have c2355 := sf_ma tw2327 (p := 15) rfl
                                          have c2356 := sf_ma tw2327 (p := 80) rfl
                                          have c2357 := sf_ma tw2327 (p := 16) rfl
                                          have c2358 := sf_ma tw2327 (p := 81) rfl
                                          have c2359 := sf_ma tw2327 (p := 17) rfl
                                          have c2360 := sf_ma tw2327 (p := 82) rfl
                                          have c2361 := sf_ma tw2327 (p := 18) rfl
                                          have c2362 := sf_ma tw2327 (p := 83) rfl
                                          have c2363 := sf_ma tw2327 (p := 19) rfl
                                          have c2364 := sf_ma tw2327 (p := 84) rfl
                                          have c2365 := sf_ma tw2327 (p := 20) rfl
                                          have c2366 := sf_ma tw2327 (p := 85) rfl
                                          have c2367 := sf_ma tw2327 (p := 24) rfl
                                          have c2368 := sf_ma tw2327 (p := 86) rfl
                                          have c2369 := sf_ma tw2327 (p := 25) rfl
                                          have c2370 := sf_ma tw2327 (p := 87) rfl
                                          have c2371 := sf_ma tw2327 (p := 23) rfl
                                          have c2372 := sf_ma tw2327 (p := 88) rfl
                                          have c2373 := sf_ma tw2327 (p := 26) rfl
                                          have c2374 := sf_ma tw2327 (p := 89) rfl
                                          have c2375 := sf_ma tw2327 (p := 27) rfl
                                          have c2376 := sf_ma tw2327 (p := 90) rfl
                                          have c2377 := sf_ma tw2327 (p := 36) rfl
                                          have c2378 := sf_ma tw2327 (p := 102) rfl
                                          have c2379 := sf_ma tw2327 (p := 37) rfl
                                          have c2380 := sf_ma tw2327 (p := 103) rfl
                                          refine sf_lstore (L' := [(5, .inl (.int v2264)), (0, .inl (.ref 100000)), (1, .inl (.ref 0)), (2, .inl (.ref 71)), (3, .inl (.ref 130)), (4, .inl (.int x4))]) rfl ?_
                                          show kt_W_law_1421 N xs K _ _ _ _ _
                                          refine sf_iinc (L' := [(6, .inl (.long v2326)), (5, .inl (.int v2264)), (0, .inl (.ref 100000)), (1, .inl (.ref 0)), (2, .inl (.ref 71)), (3, .inl (.ref 130))]) (x := x4) sf_c8 rfl rfl (by omega) (fun v2381 ev2381 => ?_)
                                          refine sf_can (L' := [(0, .inl (.ref 100000)), (1, .inl (.ref 0)), (2, .inl (.ref 71)), (3, .inl (.ref 130)), (4, .inl (.int v2381))]) rfl ?_
                                          exact ih _ _ _ _ Iw2327 (by omega) (by omega) (by omega) (by omega) (by rw [c2329, c2267]; rw [c2330, c2268]; rw [c2331, c2269]; rw [c2332, c2270]; rw [c2333, c2271]; rw [c2334, c2272]; rw [c2335, c2273]; rw [c2336, c2274]; rw [c2337, c2275]; rw [c2338, c2276]; omega) (by rw [c2339, c2277]; rw [c2340, c2278]; rw [c2330, c2268]; first | exact f_1 | exact hJ) (by rw [c2341, c2279]; rw [c2342, c2280]; first | exact f_2 | exact hK2) (by rw [c2344, c2281]; rw [c2340, c2278]; rw [c2330, c2268]; first | exact f_3 | exact hQ2) (by rw [c2345, c2282]; rw [c2346, c2283]; rw [c2332, c2270]; first | exact f_4 | exact hQ6) (by rw [c2347, c2284]; rw [c2348, c2285]; rw [c2332, c2270]; first | exact f_5 | exact hQ7) (by rw [c2349, c2286]; rw [c2350, c2287]; rw [c2332, c2270]; first | exact f_6 | exact hQ8) (by rw [c2351, c2288]; rw [c2352, c2289]; rw [c2332, c2270]; first | exact f_7 | exact hQ9) (by rw [c2353, c2290]; rw [c2354, c2291]; rw [c2334, c2272]; first | exact f_8 | exact hQ14) (by rw [c2355, c2292]; rw [c2356, c2293]; rw [c2334, c2272]; first | exact f_9 | exact hQ15) (by rw [c2357, c2294]; rw [c2358, c2295]; rw [c2334, c2272]; first | exact f_10 | exact hQ16) (by rw [c2359, c2296]; rw [c2360, c2297]; rw [c2334, c2272]; first | exact f_11 | exact hQ17) (by rw [c2361, c2298]; rw [c2362, c2299]; rw [c2334, c2272]; first | exact f_12 | exact hQ18) (by rw [c2363, c2300]; rw [c2364, c2301]; rw [c2334, c2272]; first | exact f_13 | exact hQ19) (by rw [c2365, c2302]; rw [c2366, c2303]; rw [c2334, c2272]; first | exact f_14 | exact hQ20) (by rw [c2367, c2304]; rw [c2368, c2305]; rw [c2336, c2274]; first | exact f_15 | exact hQ24) (by rw [c2369, c2306]; rw [c2370, c2307]; rw [c2336, c2274]; first | exact f_16 | exact hQ25) (by rw [c2371, c2308]; rw [c2372, c2309]; rw [c2336, c2274]; first | exact f_17 | exact hQ23) (by rw [c2373, c2310]; rw [c2374, c2311]; rw [c2336, c2274]; first | exact f_18 | exact hQ26) (by rw [c2375, c2312]; rw [c2376, c2313]; rw [c2336, c2274]; first | exact f_19 | exact hQ27) (by rw [c2377, c2314]; rw [c2378, c2315]; rw [c2338, c2276]; first | exact f_20 | exact hQ36) (by rw [c2379, c2316]; rw [c2380, c2317]; rw [c2338, c2276]; first | exact f_21 | exact hQ37) (by omega)
                                        · clear h2255
                                          refine sf_sw1 sf_c18 (fun h2382 => ?_) (fun h2382 => ?_)
                                          · refine sf_aload rfl ?_
                                            refine sf_aload rfl ?_
                                            refine sf_iload rfl ?_
                                            refine sf_iconst sf_c1 (fun z2383 ez2383 => ?_)
                                            refine sf_iadd (by omega) (fun v2384 ev2384 => ?_)
                                            refine sf_sldk (x := x4) (k := 1) (by omega) (by omega) (by omega) ?_
                                            clear ev2384 ez2383
                                            refine sf_aload rfl ?_
                                            refine sf_iload rfl ?_
                                            refine sf_iconst sf_c2 (fun z2385 ez2385 => ?_)
                                            refine sf_iadd (by omega) (fun v2386 ev2386 => ?_)
                                            refine sf_sldk (x := x4) (k := 2) (by omega) (by omega) (by omega) ?_
                                            clear ev2386 ez2385
                                            refine sf_aload rfl ?_
                                            refine sf_callv4 rfl (by omega) (by omega) ?_
                                            refine sc_W_release_0_130 I_w  (fun v2387 w2388 Iw2388 tw2388 lv2387 uv2387 => ?_)
                                            have c2390 := sf_mf tw2388 (p := 1) (j := 0) rfl
                                            have c2391 := sf_mf tw2388 (p := 71) (j := 1) rfl
                                            have c2392 := sf_mf tw2388 (p := 1) (j := 5) rfl
                                            have c2393 := sf_mf tw2388 (p := 71) (j := 5) rfl
                                            have c2394 := sf_mf tw2388 (p := 13) (j := 1) rfl
                                            have c2395 := sf_mf tw2388 (p := 71) (j := 10) rfl
                                            have c2396 := sf_mf tw2388 (p := 21) (j := 1) rfl
                                            have c2397 := sf_mf tw2388 (p := 71) (j := 18) rfl
                                            have c2398 := sf_mf tw2388 (p := 35) (j := 0) rfl
                                            have c2399 := sf_mf tw2388 (p := 71) (j := 35) rfl
                                            have c2400 := sf_ma tw2388 (p := 3) rfl
                                            have c2401 := sf_ma tw2388 (p := 72) rfl
                                            have c2402 := sf_mg tw2388 (p := 10) rfl
                                            have c2403 := sf_ma tw2388 (p := 93) rfl
                                            have c2404 := sf_ma tw2388 (p := 2) rfl
                                            have c2405 := sf_ma tw2388 (p := 6) rfl
                                            have c2406 := sf_ma tw2388 (p := 75) rfl
                                            have c2407 := sf_ma tw2388 (p := 7) rfl
                                            have c2408 := sf_ma tw2388 (p := 76) rfl
                                            have c2409 := sf_ma tw2388 (p := 8) rfl
                                            have c2410 := sf_ma tw2388 (p := 77) rfl
                                            have c2411 := sf_ma tw2388 (p := 9) rfl
                                            have c2412 := sf_ma tw2388 (p := 78) rfl
                                            have c2413 := sf_ma tw2388 (p := 14) rfl
                                            have c2414 := sf_ma tw2388 (p := 79) rfl
                                            have c2415 := sf_ma tw2388 (p := 15) rfl
                                            have c2416 := sf_ma tw2388 (p := 80) rfl
                                            have c2417 := sf_ma tw2388 (p := 16) rfl
                                            have c2418 := sf_ma tw2388 (p := 81) rfl
                                            have c2419 := sf_ma tw2388 (p := 17) rfl
                                            have c2420 := sf_ma tw2388 (p := 82) rfl
                                            have c2421 := sf_ma tw2388 (p := 18) rfl
                                            have c2422 := sf_ma tw2388 (p := 83) rfl
                                            have c2423 := sf_ma tw2388 (p := 19) rfl
                                            have c2424 := sf_ma tw2388 (p := 84) rfl
                                            have c2425 := sf_ma tw2388 (p := 20) rfl
                                            have c2426 := sf_ma tw2388 (p := 85) rfl
                                            have c2427 := sf_ma tw2388 (p := 24) rfl
                                            have c2428 := sf_ma tw2388 (p := 86) rfl
                                            have c2429 := sf_ma tw2388 (p := 25) rfl
                                            have c2430 := sf_ma tw2388 (p := 87) rfl
                                            have c2431 := sf_ma tw2388 (p := 23) rfl
                                            have c2432 := sf_ma tw2388 (p := 88) rfl
                                            have c2433 := sf_ma tw2388 (p := 26) rfl
                                            have c2434 := sf_ma tw2388 (p := 89) rfl
                                            have c2435 := sf_ma tw2388 (p := 27) rfl
                                            have c2436 := sf_ma tw2388 (p := 90) rfl
                                            have c2437 := sf_ma tw2388 (p := 36) rfl
                                            have c2438 := sf_ma tw2388 (p := 102) rfl
                                            have c2439 := sf_ma tw2388 (p := 37) rfl
                                            have c2440 := sf_ma tw2388 (p := 103) rfl
                                            refine sf_istore (L' := [(0, .inl (.ref 100000)), (1, .inl (.ref 0)), (2, .inl (.ref 71)), (3, .inl (.ref 130)), (4, .inl (.int x4))]) rfl ?_
                                            refine sf_aload rfl ?_
                                            refine sf_aload rfl ?_
                                            refine sf_iload rfl ?_
                                            refine sf_iconst sf_c1 (fun z2441 ez2441 => ?_)
                                            refine sf_iadd (by omega) (fun v2442 ev2442 => ?_)
                                            refine sf_sldk (x := x4) (k := 1) (by omega) (by omega) (by omega) ?_
                                            clear ev2442 ez2441
                                            refine sf_aload rfl ?_
                                            refine sf_iload rfl ?_
                                            refine sf_iconst sf_c2 (fun z2443 ez2443 => ?_)
                                            refine sf_iadd (by omega) (fun v2444 ev2444 => ?_)
                                            refine sf_sldk (x := x4) (k := 2) (by omega) (by omega) (by omega) ?_
                                            clear ev2444 ez2443
                                            refine sf_callv3 rfl (by omega) (by omega) ?_
                                            refine sf_rv Iw2388 rfl ?_
                                            refine sc_M_release Iw2388  (fun v2445 w2446 Iw2446 tw2446 => ?_)
                                            have c2448 := sf_mf tw2446 (p := 1) (j := 0) rfl
                                            have c2449 := sf_mf tw2446 (p := 71) (j := 1) rfl
                                            have c2450 := sf_mf tw2446 (p := 1) (j := 5) rfl
                                            have c2451 := sf_mf tw2446 (p := 71) (j := 5) rfl
                                            have c2452 := sf_mf tw2446 (p := 13) (j := 1) rfl
                                            have c2453 := sf_mf tw2446 (p := 71) (j := 10) rfl
                                            have c2454 := sf_mf tw2446 (p := 21) (j := 1) rfl
                                            have c2455 := sf_mf tw2446 (p := 71) (j := 18) rfl
                                            have c2456 := sf_mf tw2446 (p := 35) (j := 0) rfl
                                            have c2457 := sf_mf tw2446 (p := 71) (j := 35) rfl
                                            have c2458 := sf_ma tw2446 (p := 3) rfl
                                            have c2459 := sf_ma tw2446 (p := 72) rfl
                                            have c2460 := sf_mg tw2446 (p := 10) rfl
                                            have c2461 := sf_ma tw2446 (p := 93) rfl
                                            have c2462 := sf_mL tw2446 (p := 130) rfl
                                            have c2463 := sf_ma tw2446 (p := 2) rfl
                                            have c2464 := sf_ma tw2446 (p := 6) rfl
                                            have c2465 := sf_ma tw2446 (p := 75) rfl
                                            have c2466 := sf_ma tw2446 (p := 7) rfl
                                            have c2467 := sf_ma tw2446 (p := 76) rfl
                                            have c2468 := sf_ma tw2446 (p := 8) rfl
                                            have c2469 := sf_ma tw2446 (p := 77) rfl
                                            have c2470 := sf_ma tw2446 (p := 9) rfl
                                            have c2471 := sf_ma tw2446 (p := 78) rfl
                                            have c2472 := sf_ma tw2446 (p := 14) rfl
                                            have c2473 := sf_ma tw2446 (p := 79) rfl
                                            have c2474 := sf_ma tw2446 (p := 15) rfl
                                            have c2475 := sf_ma tw2446 (p := 80) rfl
                                            have c2476 := sf_ma tw2446 (p := 16) rfl
                                            have c2477 := sf_ma tw2446 (p := 81) rfl
                                            have c2478 := sf_ma tw2446 (p := 17) rfl
                                            have c2479 := sf_ma tw2446 (p := 82) rfl
                                            have c2480 := sf_ma tw2446 (p := 18) rfl
                                            have c2481 := sf_ma tw2446 (p := 83) rfl
                                            have c2482 := sf_ma tw2446 (p := 19) rfl
                                            have c2483 := sf_ma tw2446 (p := 84) rfl
                                            have c2484 := sf_ma tw2446 (p := 20) rfl
                                            have c2485 := sf_ma tw2446 (p := 85) rfl
                                            have c2486 := sf_ma tw2446 (p := 24) rfl
                                            have c2487 := sf_ma tw2446 (p := 86) rfl
                                            have c2488 := sf_ma tw2446 (p := 25) rfl
                                            have c2489 := sf_ma tw2446 (p := 87) rfl
                                            have c2490 := sf_ma tw2446 (p := 23) rfl
                                            have c2491 := sf_ma tw2446 (p := 88) rfl
                                            have c2492 := sf_ma tw2446 (p := 26) rfl
                                            have c2493 := sf_ma tw2446 (p := 89) rfl
                                            have c2494 := sf_ma tw2446 (p := 27) rfl
                                            have c2495 := sf_ma tw2446 (p := 90) rfl
                                            have c2496 := sf_ma tw2446 (p := 36) rfl
                                            have c2497 := sf_ma tw2446 (p := 102) rfl
                                            have c2498 := sf_ma tw2446 (p := 37) rfl
                                            have c2499 := sf_ma tw2446 (p := 103) rfl
                                            refine sf_lstore (L' := [(5, .inl (.int v2387)), (0, .inl (.ref 100000)), (1, .inl (.ref 0)), (2, .inl (.ref 71)), (3, .inl (.ref 130)), (4, .inl (.int x4))]) rfl ?_
                                            show kt_W_law_1421 N xs K _ _ _ _ _
                                            refine sf_iinc (L' := [(6, .inl (.long v2445)), (5, .inl (.int v2387)), (0, .inl (.ref 100000)), (1, .inl (.ref 0)), (2, .inl (.ref 71)), (3, .inl (.ref 130))]) (x := x4) sf_c8 rfl rfl (by omega) (fun v2500 ev2500 => ?_)
                                            refine sf_can (L' := [(0, .inl (.ref 100000)), (1, .inl (.ref 0)), (2, .inl (.ref 71)), (3, .inl (.ref 130)), (4, .inl (.int v2500))]) rfl ?_
                                            exact ih _ _ _ _ Iw2446 (by omega) (by omega) (by omega) (by omega) (by rw [c2448, c2390]; rw [c2449, c2391]; rw [c2450, c2392]; rw [c2451, c2393]; rw [c2452, c2394]; rw [c2453, c2395]; rw [c2454, c2396]; rw [c2455, c2397]; rw [c2456, c2398]; rw [c2457, c2399]; omega) (by rw [c2458, c2400]; rw [c2459, c2401]; rw [c2449, c2391]; first | exact f_1 | exact hJ) (by rw [c2460, c2402]; rw [c2461, c2403]; first | exact f_2 | exact hK2) (by rw [c2463, c2404]; rw [c2459, c2401]; rw [c2449, c2391]; first | exact f_3 | exact hQ2) (by rw [c2464, c2405]; rw [c2465, c2406]; rw [c2451, c2393]; first | exact f_4 | exact hQ6) (by rw [c2466, c2407]; rw [c2467, c2408]; rw [c2451, c2393]; first | exact f_5 | exact hQ7) (by rw [c2468, c2409]; rw [c2469, c2410]; rw [c2451, c2393]; first | exact f_6 | exact hQ8) (by rw [c2470, c2411]; rw [c2471, c2412]; rw [c2451, c2393]; first | exact f_7 | exact hQ9) (by rw [c2472, c2413]; rw [c2473, c2414]; rw [c2453, c2395]; first | exact f_8 | exact hQ14) (by rw [c2474, c2415]; rw [c2475, c2416]; rw [c2453, c2395]; first | exact f_9 | exact hQ15) (by rw [c2476, c2417]; rw [c2477, c2418]; rw [c2453, c2395]; first | exact f_10 | exact hQ16) (by rw [c2478, c2419]; rw [c2479, c2420]; rw [c2453, c2395]; first | exact f_11 | exact hQ17) (by rw [c2480, c2421]; rw [c2481, c2422]; rw [c2453, c2395]; first | exact f_12 | exact hQ18) (by rw [c2482, c2423]; rw [c2483, c2424]; rw [c2453, c2395]; first | exact f_13 | exact hQ19) (by rw [c2484, c2425]; rw [c2485, c2426]; rw [c2453, c2395]; first | exact f_14 | exact hQ20) (by rw [c2486, c2427]; rw [c2487, c2428]; rw [c2455, c2397]; first | exact f_15 | exact hQ24) (by rw [c2488, c2429]; rw [c2489, c2430]; rw [c2455, c2397]; first | exact f_16 | exact hQ25) (by rw [c2490, c2431]; rw [c2491, c2432]; rw [c2455, c2397]; first | exact f_17 | exact hQ23) (by rw [c2492, c2433]; rw [c2493, c2434]; rw [c2455, c2397]; first | exact f_18 | exact hQ26) (by rw [c2494, c2435]; rw [c2495, c2436]; rw [c2455, c2397]; first | exact f_19 | exact hQ27) (by rw [c2496, c2437]; rw [c2497, c2438]; rw [c2457, c2399]; first | exact f_20 | exact hQ36) (by rw [c2498, c2439]; rw [c2499, c2440]; rw [c2457, c2399]; first | exact f_21 | exact hQ37) (by omega)
                                          · clear h2382
                                            refine sf_sw1 sf_c19 (fun h2501 => ?_) (fun h2501 => ?_)
                                            · refine sf_aload rfl ?_
                                              refine sf_aload rfl ?_
                                              refine sf_iload rfl ?_
                                              refine sf_iconst sf_c1 (fun z2502 ez2502 => ?_)
                                              refine sf_iadd (by omega) (fun v2503 ev2503 => ?_)
                                              refine sf_sldk (x := x4) (k := 1) (by omega) (by omega) (by omega) ?_
                                              clear ev2503 ez2502
                                              refine sf_aload rfl ?_
                                              refine sf_iload rfl ?_
                                              refine sf_iconst sf_c2 (fun z2504 ez2504 => ?_)
                                              refine sf_iadd (by omega) (fun v2505 ev2505 => ?_)
                                              refine sf_sldk (x := x4) (k := 2) (by omega) (by omega) (by omega) ?_
                                              clear ev2505 ez2504
                                              refine sf_aload rfl ?_
                                              refine sf_callv4 rfl (by omega) (by omega) ?_
                                              refine sc_W_export_0_130 I_w  (fun v2506 w2507 Iw2507 tw2507 lv2506 uv2506 => ?_)
                                              have c2509 := sf_mf tw2507 (p := 1) (j := 0) rfl
                                              have c2510 := sf_mf tw2507 (p := 71) (j := 1) rfl
                                              have c2511 := sf_mf tw2507 (p := 1) (j := 5) rfl
                                              have c2512 := sf_mf tw2507 (p := 71) (j := 5) rfl
                                              have c2513 := sf_mf tw2507 (p := 13) (j := 1) rfl
                                              have c2514 := sf_mf tw2507 (p := 71) (j := 10) rfl
                                              have c2515 := sf_mf tw2507 (p := 21) (j := 1) rfl
                                              have c2516 := sf_mf tw2507 (p := 71) (j := 18) rfl
                                              have c2517 := sf_mf tw2507 (p := 35) (j := 0) rfl
                                              have c2518 := sf_mf tw2507 (p := 71) (j := 35) rfl
                                              have c2519 := sf_ma tw2507 (p := 3) rfl
                                              have c2520 := sf_ma tw2507 (p := 72) rfl
                                              have c2521 := sf_mg tw2507 (p := 10) rfl
                                              have c2522 := sf_ma tw2507 (p := 93) rfl
                                              have c2523 := sf_ma tw2507 (p := 2) rfl
                                              have c2524 := sf_ma tw2507 (p := 6) rfl
                                              have c2525 := sf_ma tw2507 (p := 75) rfl
                                              have c2526 := sf_ma tw2507 (p := 7) rfl
                                              have c2527 := sf_ma tw2507 (p := 76) rfl
                                              have c2528 := sf_ma tw2507 (p := 8) rfl
                                              have c2529 := sf_ma tw2507 (p := 77) rfl
                                              have c2530 := sf_ma tw2507 (p := 9) rfl
                                              have c2531 := sf_ma tw2507 (p := 78) rfl
                                              have c2532 := sf_ma tw2507 (p := 14) rfl
                                              have c2533 := sf_ma tw2507 (p := 79) rfl
                                              have c2534 := sf_ma tw2507 (p := 15) rfl
                                              have c2535 := sf_ma tw2507 (p := 80) rfl
                                              have c2536 := sf_ma tw2507 (p := 16) rfl
                                              have c2537 := sf_ma tw2507 (p := 81) rfl
                                              have c2538 := sf_ma tw2507 (p := 17) rfl
                                              have c2539 := sf_ma tw2507 (p := 82) rfl
                                              have c2540 := sf_ma tw2507 (p := 18) rfl
                                              have c2541 := sf_ma tw2507 (p := 83) rfl
                                              have c2542 := sf_ma tw2507 (p := 19) rfl
                                              have c2543 := sf_ma tw2507 (p := 84) rfl
                                              have c2544 := sf_ma tw2507 (p := 20) rfl
                                              have c2545 := sf_ma tw2507 (p := 85) rfl
                                              have c2546 := sf_ma tw2507 (p := 24) rfl
                                              have c2547 := sf_ma tw2507 (p := 86) rfl
                                              have c2548 := sf_ma tw2507 (p := 25) rfl
                                              have c2549 := sf_ma tw2507 (p := 87) rfl
                                              have c2550 := sf_ma tw2507 (p := 23) rfl
                                              have c2551 := sf_ma tw2507 (p := 88) rfl
                                              have c2552 := sf_ma tw2507 (p := 26) rfl
                                              have c2553 := sf_ma tw2507 (p := 89) rfl
                                              have c2554 := sf_ma tw2507 (p := 27) rfl
                                              have c2555 := sf_ma tw2507 (p := 90) rfl
                                              have c2556 := sf_ma tw2507 (p := 36) rfl
                                              have c2557 := sf_ma tw2507 (p := 102) rfl
                                              have c2558 := sf_ma tw2507 (p := 37) rfl
                                              have c2559 := sf_ma tw2507 (p := 103) rfl
                                              refine sf_istore (L' := [(0, .inl (.ref 100000)), (1, .inl (.ref 0)), (2, .inl (.ref 71)), (3, .inl (.ref 130)), (4, .inl (.int x4))]) rfl ?_
                                              refine sf_aload rfl ?_
                                              refine sf_aload rfl ?_
                                              refine sf_iload rfl ?_
                                              refine sf_iconst sf_c1 (fun z2560 ez2560 => ?_)
                                              refine sf_iadd (by omega) (fun v2561 ev2561 => ?_)
                                              refine sf_sldk (x := x4) (k := 1) (by omega) (by omega) (by omega) ?_
                                              clear ev2561 ez2560
                                              refine sf_aload rfl ?_
                                              refine sf_iload rfl ?_
                                              refine sf_iconst sf_c2 (fun z2562 ez2562 => ?_)
                                              refine sf_iadd (by omega) (fun v2563 ev2563 => ?_)
                                              refine sf_sldk (x := x4) (k := 2) (by omega) (by omega) (by omega) ?_
                                              clear ev2563 ez2562
                                              refine sf_callv3 rfl (by omega) (by omega) ?_
                                              refine sf_rv Iw2507 rfl ?_
                                              refine sc_M_export Iw2507  (fun v2564 w2565 Iw2565 tw2565 => ?_)
                                              have c2567 := sf_mf tw2565 (p := 1) (j := 0) rfl
                                              have c2568 := sf_mf tw2565 (p := 71) (j := 1) rfl
                                              have c2569 := sf_mf tw2565 (p := 1) (j := 5) rfl
                                              have c2570 := sf_mf tw2565 (p := 71) (j := 5) rfl
                                              have c2571 := sf_mf tw2565 (p := 13) (j := 1) rfl
                                              have c2572 := sf_mf tw2565 (p := 71) (j := 10) rfl
                                              have c2573 := sf_mf tw2565 (p := 21) (j := 1) rfl
                                              have c2574 := sf_mf tw2565 (p := 71) (j := 18) rfl
                                              have c2575 := sf_mf tw2565 (p := 35) (j := 0) rfl
                                              have c2576 := sf_mf tw2565 (p := 71) (j := 35) rfl
                                              have c2577 := sf_ma tw2565 (p := 3) rfl
                                              have c2578 := sf_ma tw2565 (p := 72) rfl
                                              have c2579 := sf_mg tw2565 (p := 10) rfl
                                              have c2580 := sf_ma tw2565 (p := 93) rfl
                                              have c2581 := sf_mL tw2565 (p := 130) rfl
                                              have c2582 := sf_ma tw2565 (p := 2) rfl
                                              have c2583 := sf_ma tw2565 (p := 6) rfl
                                              have c2584 := sf_ma tw2565 (p := 75) rfl
                                              have c2585 := sf_ma tw2565 (p := 7) rfl
                                              have c2586 := sf_ma tw2565 (p := 76) rfl
                                              have c2587 := sf_ma tw2565 (p := 8) rfl
                                              have c2588 := sf_ma tw2565 (p := 77) rfl
                                              have c2589 := sf_ma tw2565 (p := 9) rfl
                                              have c2590 := sf_ma tw2565 (p := 78) rfl
                                              have c2591 := sf_ma tw2565 (p := 14) rfl
                                              have c2592 := sf_ma tw2565 (p := 79) rfl
                                              have c2593 := sf_ma tw2565 (p := 15) rfl
                                              have c2594 := sf_ma tw2565 (p := 80) rfl
                                              have c2595 := sf_ma tw2565 (p := 16) rfl
                                              have c2596 := sf_ma tw2565 (p := 81) rfl
                                              have c2597 := sf_ma tw2565 (p := 17) rfl
                                              have c2598 := sf_ma tw2565 (p := 82) rfl
                                              have c2599 := sf_ma tw2565 (p := 18) rfl
                                              have c2600 := sf_ma tw2565 (p := 83) rfl
                                              have c2601 := sf_ma tw2565 (p := 19) rfl
                                              have c2602 := sf_ma tw2565 (p := 84) rfl
                                              have c2603 := sf_ma tw2565 (p := 20) rfl
                                              have c2604 := sf_ma tw2565 (p := 85) rfl
                                              have c2605 := sf_ma tw2565 (p := 24) rfl
                                              have c2606 := sf_ma tw2565 (p := 86) rfl
                                              have c2607 := sf_ma tw2565 (p := 25) rfl
                                              have c2608 := sf_ma tw2565 (p := 87) rfl
                                              have c2609 := sf_ma tw2565 (p := 23) rfl
                                              have c2610 := sf_ma tw2565 (p := 88) rfl
                                              have c2611 := sf_ma tw2565 (p := 26) rfl
                                              have c2612 := sf_ma tw2565 (p := 89) rfl
                                              have c2613 := sf_ma tw2565 (p := 27) rfl
                                              have c2614 := sf_ma tw2565 (p := 90) rfl
                                              have c2615 := sf_ma tw2565 (p := 36) rfl
                                              have c2616 := sf_ma tw2565 (p := 102) rfl
                                              have c2617 := sf_ma tw2565 (p := 37) rfl
                                              have c2618 := sf_ma tw2565 (p := 103) rfl
                                              refine sf_lstore (L' := [(5, .inl (.int v2506)), (0, .inl (.ref 100000)), (1, .inl (.ref 0)), (2, .inl (.ref 71)), (3, .inl (.ref 130)), (4, .inl (.int x4))]) rfl ?_
                                              show kt_W_law_1421 N xs K _ _ _ _ _
                                              refine sf_iinc (L' := [(6, .inl (.long v2564)), (5, .inl (.int v2506)), (0, .inl (.ref 100000)), (1, .inl (.ref 0)), (2, .inl (.ref 71)), (3, .inl (.ref 130))]) (x := x4) sf_c8 rfl rfl (by omega) (fun v2619 ev2619 => ?_)
                                              refine sf_can (L' := [(0, .inl (.ref 100000)), (1, .inl (.ref 0)), (2, .inl (.ref 71)), (3, .inl (.ref 130)), (4, .inl (.int v2619))]) rfl ?_
                                              exact ih _ _ _ _ Iw2565 (by omega) (by omega) (by omega) (by omega) (by rw [c2567, c2509]; rw [c2568, c2510]; rw [c2569, c2511]; rw [c2570, c2512]; rw [c2571, c2513]; rw [c2572, c2514]; rw [c2573, c2515]; rw [c2574, c2516]; rw [c2575, c2517]; rw [c2576, c2518]; omega) (by rw [c2577, c2519]; rw [c2578, c2520]; rw [c2568, c2510]; first | exact f_1 | exact hJ) (by rw [c2579, c2521]; rw [c2580, c2522]; first | exact f_2 | exact hK2) (by rw [c2582, c2523]; rw [c2578, c2520]; rw [c2568, c2510]; first | exact f_3 | exact hQ2) (by rw [c2583, c2524]; rw [c2584, c2525]; rw [c2570, c2512]; first | exact f_4 | exact hQ6) (by rw [c2585, c2526]; rw [c2586, c2527]; rw [c2570, c2512]; first | exact f_5 | exact hQ7) (by rw [c2587, c2528]; rw [c2588, c2529]; rw [c2570, c2512]; first | exact f_6 | exact hQ8) (by rw [c2589, c2530]; rw [c2590, c2531]; rw [c2570, c2512]; first | exact f_7 | exact hQ9) (by rw [c2591, c2532]; rw [c2592, c2533]; rw [c2572, c2514]; first | exact f_8 | exact hQ14) (by rw [c2593, c2534]; rw [c2594, c2535]; rw [c2572, c2514]; first | exact f_9 | exact hQ15) (by rw [c2595, c2536]; rw [c2596, c2537]; rw [c2572, c2514]; first | exact f_10 | exact hQ16) (by rw [c2597, c2538]; rw [c2598, c2539]; rw [c2572, c2514]; first | exact f_11 | exact hQ17) (by rw [c2599, c2540]; rw [c2600, c2541]; rw [c2572, c2514]; first | exact f_12 | exact hQ18) (by rw [c2601, c2542]; rw [c2602, c2543]; rw [c2572, c2514]; first | exact f_13 | exact hQ19) (by rw [c2603, c2544]; rw [c2604, c2545]; rw [c2572, c2514]; first | exact f_14 | exact hQ20) (by rw [c2605, c2546]; rw [c2606, c2547]; rw [c2574, c2516]; first | exact f_15 | exact hQ24) (by rw [c2607, c2548]; rw [c2608, c2549]; rw [c2574, c2516]; first | exact f_16 | exact hQ25) (by rw [c2609, c2550]; rw [c2610, c2551]; rw [c2574, c2516]; first | exact f_17 | exact hQ23) (by rw [c2611, c2552]; rw [c2612, c2553]; rw [c2574, c2516]; first | exact f_18 | exact hQ26) (by rw [c2613, c2554]; rw [c2614, c2555]; rw [c2574, c2516]; first | exact f_19 | exact hQ27) (by rw [c2615, c2556]; rw [c2616, c2557]; rw [c2576, c2518]; first | exact f_20 | exact hQ36) (by rw [c2617, c2558]; rw [c2618, c2559]; rw [c2576, c2518]; first | exact f_21 | exact hQ37) (by omega)
                                            · clear h2501
                                              refine sf_sw1 sf_c20 (fun h2620 => ?_) (fun h2620 => ?_)
                                              · refine sf_aload rfl ?_
                                                refine sf_aload rfl ?_
                                                refine sf_iload rfl ?_
                                                refine sf_iconst sf_c1 (fun z2621 ez2621 => ?_)
                                                refine sf_iadd (by omega) (fun v2622 ev2622 => ?_)
                                                refine sf_sldk (x := x4) (k := 1) (by omega) (by omega) (by omega) ?_
                                                clear ev2622 ez2621
                                                refine sf_aload rfl ?_
                                                refine sf_iload rfl ?_
                                                refine sf_iconst sf_c2 (fun z2623 ez2623 => ?_)
                                                refine sf_iadd (by omega) (fun v2624 ev2624 => ?_)
                                                refine sf_sldk (x := x4) (k := 2) (by omega) (by omega) (by omega) ?_
                                                clear ev2624 ez2623
                                                refine sf_aload rfl ?_
                                                refine sf_iload rfl ?_
                                                refine sf_iconst sf_c3 (fun z2625 ez2625 => ?_)
                                                refine sf_iadd (by omega) (fun v2626 ev2626 => ?_)
                                                refine sf_sldk (x := x4) (k := 3) (by omega) (by omega) (by omega) ?_
                                                clear ev2626 ez2625
                                                refine sf_aload rfl ?_
                                                refine sf_iload rfl ?_
                                                refine sf_iconst sf_c4 (fun z2627 ez2627 => ?_)
                                                refine sf_iadd (by omega) (fun v2628 ev2628 => ?_)
                                                refine sf_sldk (x := x4) (k := 4) (by omega) (by omega) (by omega) ?_
                                                clear ev2628 ez2627
                                                refine sf_aload rfl ?_
                                                refine sf_callv6 rfl (by omega) (by omega) ?_
                                                refine sc_W_work_0_130 I_w  (fun v2629 w2630 Iw2630 tw2630 lv2629 uv2629 => ?_)
                                                have c2632 := sf_mf tw2630 (p := 1) (j := 0) rfl
                                                have c2633 := sf_mf tw2630 (p := 71) (j := 1) rfl
                                                have c2634 := sf_mf tw2630 (p := 1) (j := 5) rfl
                                                have c2635 := sf_mf tw2630 (p := 71) (j := 5) rfl
                                                have c2636 := sf_mf tw2630 (p := 13) (j := 1) rfl
                                                have c2637 := sf_mf tw2630 (p := 71) (j := 10) rfl
                                                have c2638 := sf_mf tw2630 (p := 21) (j := 1) rfl
                                                have c2639 := sf_mf tw2630 (p := 71) (j := 18) rfl
                                                have c2640 := sf_mf tw2630 (p := 35) (j := 0) rfl
                                                have c2641 := sf_mf tw2630 (p := 71) (j := 35) rfl
                                                have c2642 := sf_ma tw2630 (p := 3) rfl
                                                have c2643 := sf_ma tw2630 (p := 72) rfl
                                                have c2644 := sf_mg tw2630 (p := 10) rfl
                                                have c2645 := sf_ma tw2630 (p := 93) rfl
                                                have c2646 := sf_ma tw2630 (p := 2) rfl
                                                have c2647 := sf_ma tw2630 (p := 6) rfl
                                                have c2648 := sf_ma tw2630 (p := 75) rfl
                                                have c2649 := sf_ma tw2630 (p := 7) rfl
                                                have c2650 := sf_ma tw2630 (p := 76) rfl
                                                have c2651 := sf_ma tw2630 (p := 8) rfl
                                                have c2652 := sf_ma tw2630 (p := 77) rfl
                                                have c2653 := sf_ma tw2630 (p := 9) rfl
                                                have c2654 := sf_ma tw2630 (p := 78) rfl
                                                have c2655 := sf_ma tw2630 (p := 14) rfl
                                                have c2656 := sf_ma tw2630 (p := 79) rfl
                                                have c2657 := sf_ma tw2630 (p := 15) rfl
                                                have c2658 := sf_ma tw2630 (p := 80) rfl
                                                have c2659 := sf_ma tw2630 (p := 16) rfl
                                                have c2660 := sf_ma tw2630 (p := 81) rfl
                                                have c2661 := sf_ma tw2630 (p := 17) rfl
                                                have c2662 := sf_ma tw2630 (p := 82) rfl
                                                have c2663 := sf_ma tw2630 (p := 18) rfl
                                                have c2664 := sf_ma tw2630 (p := 83) rfl
                                                have c2665 := sf_ma tw2630 (p := 19) rfl
                                                have c2666 := sf_ma tw2630 (p := 84) rfl
                                                have c2667 := sf_ma tw2630 (p := 20) rfl
                                                have c2668 := sf_ma tw2630 (p := 85) rfl
                                                have c2669 := sf_ma tw2630 (p := 24) rfl
                                                have c2670 := sf_ma tw2630 (p := 86) rfl
                                                have c2671 := sf_ma tw2630 (p := 25) rfl
                                                have c2672 := sf_ma tw2630 (p := 87) rfl
                                                have c2673 := sf_ma tw2630 (p := 23) rfl
                                                have c2674 := sf_ma tw2630 (p := 88) rfl
                                                have c2675 := sf_ma tw2630 (p := 26) rfl
                                                have c2676 := sf_ma tw2630 (p := 89) rfl
                                                have c2677 := sf_ma tw2630 (p := 27) rfl
                                                have c2678 := sf_ma tw2630 (p := 90) rfl
                                                have c2679 := sf_ma tw2630 (p := 36) rfl
                                                have c2680 := sf_ma tw2630 (p := 102) rfl
                                                have c2681 := sf_ma tw2630 (p := 37) rfl
                                                have c2682 := sf_ma tw2630 (p := 103) rfl
                                                refine sf_istore (L' := [(0, .inl (.ref 100000)), (1, .inl (.ref 0)), (2, .inl (.ref 71)), (3, .inl (.ref 130)), (4, .inl (.int x4))]) rfl ?_
                                                refine sf_aload rfl ?_
                                                refine sf_aload rfl ?_
                                                refine sf_iload rfl ?_
                                                refine sf_iconst sf_c1 (fun z2683 ez2683 => ?_)
                                                refine sf_iadd (by omega) (fun v2684 ev2684 => ?_)
                                                refine sf_sldk (x := x4) (k := 1) (by omega) (by omega) (by omega) ?_
                                                clear ev2684 ez2683
                                                refine sf_aload rfl ?_
                                                refine sf_iload rfl ?_
                                                refine sf_iconst sf_c2 (fun z2685 ez2685 => ?_)
                                                refine sf_iadd (by omega) (fun v2686 ev2686 => ?_)
                                                refine sf_sldk (x := x4) (k := 2) (by omega) (by omega) (by omega) ?_
                                                clear ev2686 ez2685
                                                refine sf_aload rfl ?_
                                                refine sf_iload rfl ?_
                                                refine sf_iconst sf_c3 (fun z2687 ez2687 => ?_)
                                                refine sf_iadd (by omega) (fun v2688 ev2688 => ?_)
                                                refine sf_sldk (x := x4) (k := 3) (by omega) (by omega) (by omega) ?_
                                                clear ev2688 ez2687
                                                refine sf_aload rfl ?_
                                                refine sf_iload rfl ?_
                                                refine sf_iconst sf_c4 (fun z2689 ez2689 => ?_)
                                                refine sf_iadd (by omega) (fun v2690 ev2690 => ?_)
                                                refine sf_sldk (x := x4) (k := 4) (by omega) (by omega) (by omega) ?_
                                                clear ev2690 ez2689
                                                refine sf_callv5 rfl (by omega) (by omega) ?_
                                                refine sf_rv Iw2630 rfl ?_
                                                refine sc_M_work Iw2630  (fun v2691 w2692 Iw2692 tw2692 lv2691 uv2691 => ?_)
                                                have c2694 := sf_mf tw2692 (p := 1) (j := 0) rfl
                                                have c2695 := sf_mf tw2692 (p := 71) (j := 1) rfl
                                                have c2696 := sf_mf tw2692 (p := 1) (j := 5) rfl
                                                have c2697 := sf_mf tw2692 (p := 71) (j := 5) rfl
                                                have c2698 := sf_mf tw2692 (p := 13) (j := 1) rfl
                                                have c2699 := sf_mf tw2692 (p := 71) (j := 10) rfl
                                                have c2700 := sf_mf tw2692 (p := 21) (j := 1) rfl
                                                have c2701 := sf_mf tw2692 (p := 71) (j := 18) rfl
                                                have c2702 := sf_mf tw2692 (p := 35) (j := 0) rfl
                                                have c2703 := sf_mf tw2692 (p := 71) (j := 35) rfl
                                                have c2704 := sf_ma tw2692 (p := 3) rfl
                                                have c2705 := sf_ma tw2692 (p := 72) rfl
                                                have c2706 := sf_mg tw2692 (p := 10) rfl
                                                have c2707 := sf_ma tw2692 (p := 93) rfl
                                                have c2708 := sf_mL tw2692 (p := 130) rfl
                                                have c2709 := sf_ma tw2692 (p := 2) rfl
                                                have c2710 := sf_ma tw2692 (p := 6) rfl
                                                have c2711 := sf_ma tw2692 (p := 75) rfl
                                                have c2712 := sf_ma tw2692 (p := 7) rfl
                                                have c2713 := sf_ma tw2692 (p := 76) rfl
                                                have c2714 := sf_ma tw2692 (p := 8) rfl
                                                have c2715 := sf_ma tw2692 (p := 77) rfl
                                                have c2716 := sf_ma tw2692 (p := 9) rfl
                                                have c2717 := sf_ma tw2692 (p := 78) rfl
                                                have c2718 := sf_ma tw2692 (p := 14) rfl
                                                have c2719 := sf_ma tw2692 (p := 79) rfl
                                                have c2720 := sf_ma tw2692 (p := 15) rfl
                                                have c2721 := sf_ma tw2692 (p := 80) rfl
                                                have c2722 := sf_ma tw2692 (p := 16) rfl
                                                have c2723 := sf_ma tw2692 (p := 81) rfl
                                                have c2724 := sf_ma tw2692 (p := 17) rfl
                                                have c2725 := sf_ma tw2692 (p := 82) rfl
                                                have c2726 := sf_ma tw2692 (p := 18) rfl
                                                have c2727 := sf_ma tw2692 (p := 83) rfl
                                                have c2728 := sf_ma tw2692 (p := 19) rfl
                                                have c2729 := sf_ma tw2692 (p := 84) rfl
                                                have c2730 := sf_ma tw2692 (p := 20) rfl
                                                have c2731 := sf_ma tw2692 (p := 85) rfl
                                                have c2732 := sf_ma tw2692 (p := 24) rfl
                                                have c2733 := sf_ma tw2692 (p := 86) rfl
                                                have c2734 := sf_ma tw2692 (p := 25) rfl
                                                have c2735 := sf_ma tw2692 (p := 87) rfl
                                                have c2736 := sf_ma tw2692 (p := 23) rfl
                                                have c2737 := sf_ma tw2692 (p := 88) rfl
                                                have c2738 := sf_ma tw2692 (p := 26) rfl
                                                have c2739 := sf_ma tw2692 (p := 89) rfl
                                                have c2740 := sf_ma tw2692 (p := 27) rfl
                                                have c2741 := sf_ma tw2692 (p := 90) rfl
                                                have c2742 := sf_ma tw2692 (p := 36) rfl
                                                have c2743 := sf_ma tw2692 (p := 102) rfl
                                                have c2744 := sf_ma tw2692 (p := 37) rfl
                                                have c2745 := sf_ma tw2692 (p := 103) rfl
                                                refine sf_istore (L' := [(5, .inl (.int v2629)), (0, .inl (.ref 100000)), (1, .inl (.ref 0)), (2, .inl (.ref 71)), (3, .inl (.ref 130)), (4, .inl (.int x4))]) rfl ?_
                                                show kt_W_law_1421 N xs K _ _ _ _ _
                                                refine sf_iinc (L' := [(6, .inl (.int v2691)), (5, .inl (.int v2629)), (0, .inl (.ref 100000)), (1, .inl (.ref 0)), (2, .inl (.ref 71)), (3, .inl (.ref 130))]) (x := x4) sf_c8 rfl rfl (by omega) (fun v2746 ev2746 => ?_)
                                                refine sf_can (L' := [(0, .inl (.ref 100000)), (1, .inl (.ref 0)), (2, .inl (.ref 71)), (3, .inl (.ref 130)), (4, .inl (.int v2746))]) rfl ?_
                                                exact ih _ _ _ _ Iw2692 (by omega) (by omega) (by omega) (by omega) (by rw [c2694, c2632]; rw [c2695, c2633]; rw [c2696, c2634]; rw [c2697, c2635]; rw [c2698, c2636]; rw [c2699, c2637]; rw [c2700, c2638]; rw [c2701, c2639]; rw [c2702, c2640]; rw [c2703, c2641]; omega) (by rw [c2704, c2642]; rw [c2705, c2643]; rw [c2695, c2633]; first | exact f_1 | exact hJ) (by rw [c2706, c2644]; rw [c2707, c2645]; first | exact f_2 | exact hK2) (by rw [c2709, c2646]; rw [c2705, c2643]; rw [c2695, c2633]; first | exact f_3 | exact hQ2) (by rw [c2710, c2647]; rw [c2711, c2648]; rw [c2697, c2635]; first | exact f_4 | exact hQ6) (by rw [c2712, c2649]; rw [c2713, c2650]; rw [c2697, c2635]; first | exact f_5 | exact hQ7) (by rw [c2714, c2651]; rw [c2715, c2652]; rw [c2697, c2635]; first | exact f_6 | exact hQ8) (by rw [c2716, c2653]; rw [c2717, c2654]; rw [c2697, c2635]; first | exact f_7 | exact hQ9) (by rw [c2718, c2655]; rw [c2719, c2656]; rw [c2699, c2637]; first | exact f_8 | exact hQ14) (by rw [c2720, c2657]; rw [c2721, c2658]; rw [c2699, c2637]; first | exact f_9 | exact hQ15) (by rw [c2722, c2659]; rw [c2723, c2660]; rw [c2699, c2637]; first | exact f_10 | exact hQ16) (by rw [c2724, c2661]; rw [c2725, c2662]; rw [c2699, c2637]; first | exact f_11 | exact hQ17) (by rw [c2726, c2663]; rw [c2727, c2664]; rw [c2699, c2637]; first | exact f_12 | exact hQ18) (by rw [c2728, c2665]; rw [c2729, c2666]; rw [c2699, c2637]; first | exact f_13 | exact hQ19) (by rw [c2730, c2667]; rw [c2731, c2668]; rw [c2699, c2637]; first | exact f_14 | exact hQ20) (by rw [c2732, c2669]; rw [c2733, c2670]; rw [c2701, c2639]; first | exact f_15 | exact hQ24) (by rw [c2734, c2671]; rw [c2735, c2672]; rw [c2701, c2639]; first | exact f_16 | exact hQ25) (by rw [c2736, c2673]; rw [c2737, c2674]; rw [c2701, c2639]; first | exact f_17 | exact hQ23) (by rw [c2738, c2675]; rw [c2739, c2676]; rw [c2701, c2639]; first | exact f_18 | exact hQ26) (by rw [c2740, c2677]; rw [c2741, c2678]; rw [c2701, c2639]; first | exact f_19 | exact hQ27) (by rw [c2742, c2679]; rw [c2743, c2680]; rw [c2703, c2641]; first | exact f_20 | exact hQ36) (by rw [c2744, c2681]; rw [c2745, c2682]; rw [c2703, c2641]; first | exact f_21 | exact hQ37) (by omega)
                                              · clear h2620
                                                refine sf_sw1 sf_c21 (fun h2747 => ?_) (fun h2747 => ?_)
                                                · refine sf_aload rfl ?_
                                                  refine sf_aload rfl ?_
                                                  refine sf_iload rfl ?_
                                                  refine sf_iconst sf_c1 (fun z2748 ez2748 => ?_)
                                                  refine sf_iadd (by omega) (fun v2749 ev2749 => ?_)
                                                  refine sf_sldk (x := x4) (k := 1) (by omega) (by omega) (by omega) ?_
                                                  clear ev2749 ez2748
                                                  refine sf_aload rfl ?_
                                                  refine sf_iload rfl ?_
                                                  refine sf_iconst sf_c2 (fun z2750 ez2750 => ?_)
                                                  refine sf_iadd (by omega) (fun v2751 ev2751 => ?_)
                                                  refine sf_sldk (x := x4) (k := 2) (by omega) (by omega) (by omega) ?_
                                                  clear ev2751 ez2750
                                                  refine sf_aload rfl ?_
                                                  refine sf_callv4 rfl (by omega) (by omega) ?_
                                                  refine sc_W_lot_0_130 I_w  (fun v2752 w2753 Iw2753 tw2753 lv2752 uv2752 => ?_)
                                                  have c2755 := sf_mf tw2753 (p := 1) (j := 0) rfl
                                                  have c2756 := sf_mf tw2753 (p := 71) (j := 1) rfl
                                                  have c2757 := sf_mf tw2753 (p := 1) (j := 5) rfl
                                                  have c2758 := sf_mf tw2753 (p := 71) (j := 5) rfl
                                                  have c2759 := sf_mf tw2753 (p := 13) (j := 1) rfl
                                                  have c2760 := sf_mf tw2753 (p := 71) (j := 10) rfl
                                                  have c2761 := sf_mf tw2753 (p := 21) (j := 1) rfl
                                                  have c2762 := sf_mf tw2753 (p := 71) (j := 18) rfl
                                                  have c2763 := sf_mf tw2753 (p := 35) (j := 0) rfl
                                                  have c2764 := sf_mf tw2753 (p := 71) (j := 35) rfl
                                                  have c2765 := sf_ma tw2753 (p := 3) rfl
                                                  have c2766 := sf_ma tw2753 (p := 72) rfl
                                                  have c2767 := sf_mg tw2753 (p := 10) rfl
                                                  have c2768 := sf_ma tw2753 (p := 93) rfl
                                                  have c2769 := sf_ma tw2753 (p := 2) rfl
                                                  have c2770 := sf_ma tw2753 (p := 6) rfl
                                                  have c2771 := sf_ma tw2753 (p := 75) rfl
                                                  have c2772 := sf_ma tw2753 (p := 7) rfl
                                                  have c2773 := sf_ma tw2753 (p := 76) rfl
                                                  have c2774 := sf_ma tw2753 (p := 8) rfl
                                                  have c2775 := sf_ma tw2753 (p := 77) rfl
                                                  have c2776 := sf_ma tw2753 (p := 9) rfl
                                                  have c2777 := sf_ma tw2753 (p := 78) rfl
                                                  have c2778 := sf_ma tw2753 (p := 14) rfl
                                                  have c2779 := sf_ma tw2753 (p := 79) rfl
                                                  have c2780 := sf_ma tw2753 (p := 15) rfl
                                                  have c2781 := sf_ma tw2753 (p := 80) rfl
                                                  have c2782 := sf_ma tw2753 (p := 16) rfl
                                                  have c2783 := sf_ma tw2753 (p := 81) rfl
                                                  have c2784 := sf_ma tw2753 (p := 17) rfl
                                                  have c2785 := sf_ma tw2753 (p := 82) rfl
                                                  have c2786 := sf_ma tw2753 (p := 18) rfl
                                                  have c2787 := sf_ma tw2753 (p := 83) rfl
                                                  have c2788 := sf_ma tw2753 (p := 19) rfl
                                                  have c2789 := sf_ma tw2753 (p := 84) rfl
                                                  have c2790 := sf_ma tw2753 (p := 20) rfl
                                                  have c2791 := sf_ma tw2753 (p := 85) rfl
                                                  have c2792 := sf_ma tw2753 (p := 24) rfl
                                                  have c2793 := sf_ma tw2753 (p := 86) rfl
                                                  have c2794 := sf_ma tw2753 (p := 25) rfl
                                                  have c2795 := sf_ma tw2753 (p := 87) rfl
                                                  have c2796 := sf_ma tw2753 (p := 23) rfl
                                                  have c2797 := sf_ma tw2753 (p := 88) rfl
                                                  have c2798 := sf_ma tw2753 (p := 26) rfl
                                                  have c2799 := sf_ma tw2753 (p := 89) rfl
                                                  have c2800 := sf_ma tw2753 (p := 27) rfl
                                                  have c2801 := sf_ma tw2753 (p := 90) rfl
                                                  have c2802 := sf_ma tw2753 (p := 36) rfl
                                                  have c2803 := sf_ma tw2753 (p := 102) rfl
                                                  have c2804 := sf_ma tw2753 (p := 37) rfl
                                                  have c2805 := sf_ma tw2753 (p := 103) rfl
                                                  refine sf_istore (L' := [(0, .inl (.ref 100000)), (1, .inl (.ref 0)), (2, .inl (.ref 71)), (3, .inl (.ref 130)), (4, .inl (.int x4))]) rfl ?_
                                                  refine sf_aload rfl ?_
                                                  refine sf_aload rfl ?_
                                                  refine sf_iload rfl ?_
                                                  refine sf_iconst sf_c1 (fun z2806 ez2806 => ?_)
                                                  refine sf_iadd (by omega) (fun v2807 ev2807 => ?_)
                                                  refine sf_sldk (x := x4) (k := 1) (by omega) (by omega) (by omega) ?_
                                                  clear ev2807 ez2806
                                                  refine sf_aload rfl ?_
                                                  refine sf_iload rfl ?_
                                                  refine sf_iconst sf_c2 (fun z2808 ez2808 => ?_)
                                                  refine sf_iadd (by omega) (fun v2809 ev2809 => ?_)
                                                  refine sf_sldk (x := x4) (k := 2) (by omega) (by omega) (by omega) ?_
                                                  clear ev2809 ez2808
                                                  refine sf_callv3 rfl (by omega) (by omega) ?_
                                                  refine sf_rv Iw2753 rfl ?_
                                                  refine sc_M_lot Iw2753  (fun v2810 w2811 Iw2811 tw2811 => ?_)
                                                  have c2813 := sf_mf tw2811 (p := 1) (j := 0) rfl
                                                  have c2814 := sf_mf tw2811 (p := 71) (j := 1) rfl
                                                  have c2815 := sf_mf tw2811 (p := 1) (j := 5) rfl
                                                  have c2816 := sf_mf tw2811 (p := 71) (j := 5) rfl
                                                  have c2817 := sf_mf tw2811 (p := 13) (j := 1) rfl
                                                  have c2818 := sf_mf tw2811 (p := 71) (j := 10) rfl
                                                  have c2819 := sf_mf tw2811 (p := 21) (j := 1) rfl
                                                  have c2820 := sf_mf tw2811 (p := 71) (j := 18) rfl
                                                  have c2821 := sf_mf tw2811 (p := 35) (j := 0) rfl
                                                  have c2822 := sf_mf tw2811 (p := 71) (j := 35) rfl
                                                  have c2823 := sf_ma tw2811 (p := 3) rfl
                                                  have c2824 := sf_ma tw2811 (p := 72) rfl
                                                  have c2825 := sf_mg tw2811 (p := 10) rfl
                                                  have c2826 := sf_ma tw2811 (p := 93) rfl
                                                  have c2827 := sf_mL tw2811 (p := 130) rfl
                                                  have c2828 := sf_ma tw2811 (p := 2) rfl
                                                  have c2829 := sf_ma tw2811 (p := 6) rfl
                                                  have c2830 := sf_ma tw2811 (p := 75) rfl
                                                  have c2831 := sf_ma tw2811 (p := 7) rfl
                                                  have c2832 := sf_ma tw2811 (p := 76) rfl
                                                  have c2833 := sf_ma tw2811 (p := 8) rfl
                                                  have c2834 := sf_ma tw2811 (p := 77) rfl
                                                  have c2835 := sf_ma tw2811 (p := 9) rfl
                                                  have c2836 := sf_ma tw2811 (p := 78) rfl
                                                  have c2837 := sf_ma tw2811 (p := 14) rfl
                                                  have c2838 := sf_ma tw2811 (p := 79) rfl
                                                  have c2839 := sf_ma tw2811 (p := 15) rfl
                                                  have c2840 := sf_ma tw2811 (p := 80) rfl
                                                  have c2841 := sf_ma tw2811 (p := 16) rfl
                                                  have c2842 := sf_ma tw2811 (p := 81) rfl
                                                  have c2843 := sf_ma tw2811 (p := 17) rfl
                                                  have c2844 := sf_ma tw2811 (p := 82) rfl
                                                  have c2845 := sf_ma tw2811 (p := 18) rfl
                                                  have c2846 := sf_ma tw2811 (p := 83) rfl
                                                  have c2847 := sf_ma tw2811 (p := 19) rfl
                                                  have c2848 := sf_ma tw2811 (p := 84) rfl
                                                  have c2849 := sf_ma tw2811 (p := 20) rfl
                                                  have c2850 := sf_ma tw2811 (p := 85) rfl
                                                  have c2851 := sf_ma tw2811 (p := 24) rfl
                                                  have c2852 := sf_ma tw2811 (p := 86) rfl
                                                  have c2853 := sf_ma tw2811 (p := 25) rfl
                                                  have c2854 := sf_ma tw2811 (p := 87) rfl
                                                  have c2855 := sf_ma tw2811 (p := 23) rfl
                                                  have c2856 := sf_ma tw2811 (p := 88) rfl
                                                  have c2857 := sf_ma tw2811 (p := 26) rfl
                                                  have c2858 := sf_ma tw2811 (p := 89) rfl
                                                  have c2859 := sf_ma tw2811 (p := 27) rfl
                                                  have c2860 := sf_ma tw2811 (p := 90) rfl
                                                  have c2861 := sf_ma tw2811 (p := 36) rfl
                                                  have c2862 := sf_ma tw2811 (p := 102) rfl
                                                  have c2863 := sf_ma tw2811 (p := 37) rfl
                                                  have c2864 := sf_ma tw2811 (p := 103) rfl
                                                  refine sf_lstore (L' := [(5, .inl (.int v2752)), (0, .inl (.ref 100000)), (1, .inl (.ref 0)), (2, .inl (.ref 71)), (3, .inl (.ref 130)), (4, .inl (.int x4))]) rfl ?_
                                                  show kt_W_law_1421 N xs K _ _ _ _ _
                                                  refine sf_iinc (L' := [(6, .inl (.long v2810)), (5, .inl (.int v2752)), (0, .inl (.ref 100000)), (1, .inl (.ref 0)), (2, .inl (.ref 71)), (3, .inl (.ref 130))]) (x := x4) sf_c8 rfl rfl (by omega) (fun v2865 ev2865 => ?_)
                                                  refine sf_can (L' := [(0, .inl (.ref 100000)), (1, .inl (.ref 0)), (2, .inl (.ref 71)), (3, .inl (.ref 130)), (4, .inl (.int v2865))]) rfl ?_
                                                  exact ih _ _ _ _ Iw2811 (by omega) (by omega) (by omega) (by omega) (by rw [c2813, c2755]; rw [c2814, c2756]; rw [c2815, c2757]; rw [c2816, c2758]; rw [c2817, c2759]; rw [c2818, c2760]; rw [c2819, c2761]; rw [c2820, c2762]; rw [c2821, c2763]; rw [c2822, c2764]; omega) (by rw [c2823, c2765]; rw [c2824, c2766]; rw [c2814, c2756]; first | exact f_1 | exact hJ) (by rw [c2825, c2767]; rw [c2826, c2768]; first | exact f_2 | exact hK2) (by rw [c2828, c2769]; rw [c2824, c2766]; rw [c2814, c2756]; first | exact f_3 | exact hQ2) (by rw [c2829, c2770]; rw [c2830, c2771]; rw [c2816, c2758]; first | exact f_4 | exact hQ6) (by rw [c2831, c2772]; rw [c2832, c2773]; rw [c2816, c2758]; first | exact f_5 | exact hQ7) (by rw [c2833, c2774]; rw [c2834, c2775]; rw [c2816, c2758]; first | exact f_6 | exact hQ8) (by rw [c2835, c2776]; rw [c2836, c2777]; rw [c2816, c2758]; first | exact f_7 | exact hQ9) (by rw [c2837, c2778]; rw [c2838, c2779]; rw [c2818, c2760]; first | exact f_8 | exact hQ14) (by rw [c2839, c2780]; rw [c2840, c2781]; rw [c2818, c2760]; first | exact f_9 | exact hQ15) (by rw [c2841, c2782]; rw [c2842, c2783]; rw [c2818, c2760]; first | exact f_10 | exact hQ16) (by rw [c2843, c2784]; rw [c2844, c2785]; rw [c2818, c2760]; first | exact f_11 | exact hQ17) (by rw [c2845, c2786]; rw [c2846, c2787]; rw [c2818, c2760]; first | exact f_12 | exact hQ18) (by rw [c2847, c2788]; rw [c2848, c2789]; rw [c2818, c2760]; first | exact f_13 | exact hQ19) (by rw [c2849, c2790]; rw [c2850, c2791]; rw [c2818, c2760]; first | exact f_14 | exact hQ20) (by rw [c2851, c2792]; rw [c2852, c2793]; rw [c2820, c2762]; first | exact f_15 | exact hQ24) (by rw [c2853, c2794]; rw [c2854, c2795]; rw [c2820, c2762]; first | exact f_16 | exact hQ25) (by rw [c2855, c2796]; rw [c2856, c2797]; rw [c2820, c2762]; first | exact f_17 | exact hQ23) (by rw [c2857, c2798]; rw [c2858, c2799]; rw [c2820, c2762]; first | exact f_18 | exact hQ26) (by rw [c2859, c2800]; rw [c2860, c2801]; rw [c2820, c2762]; first | exact f_19 | exact hQ27) (by rw [c2861, c2802]; rw [c2862, c2803]; rw [c2822, c2764]; first | exact f_20 | exact hQ36) (by rw [c2863, c2804]; rw [c2864, c2805]; rw [c2822, c2764]; first | exact f_21 | exact hQ37) (by omega)
                                                · clear h2747
                                                  refine sf_sw1 sf_c22 (fun h2866 => ?_) (fun h2866 => ?_)
                                                  · refine sf_aload rfl ?_
                                                    refine sf_aload rfl ?_
                                                    refine sf_iload rfl ?_
                                                    refine sf_iconst sf_c1 (fun z2867 ez2867 => ?_)
                                                    refine sf_iadd (by omega) (fun v2868 ev2868 => ?_)
                                                    refine sf_sldk (x := x4) (k := 1) (by omega) (by omega) (by omega) ?_
                                                    clear ev2868 ez2867
                                                    refine sf_aload rfl ?_
                                                    refine sf_iload rfl ?_
                                                    refine sf_iconst sf_c2 (fun z2869 ez2869 => ?_)
                                                    refine sf_iadd (by omega) (fun v2870 ev2870 => ?_)
                                                    refine sf_sldk (x := x4) (k := 2) (by omega) (by omega) (by omega) ?_
                                                    clear ev2870 ez2869
                                                    refine sf_aload rfl ?_
                                                    refine sf_callv4 rfl (by omega) (by omega) ?_
                                                    refine sc_W_account_0_130 I_w  (fun v2871 w2872 Iw2872 tw2872 lv2871 uv2871 => ?_)
                                                    have c2874 := sf_mf tw2872 (p := 1) (j := 0) rfl
                                                    have c2875 := sf_mf tw2872 (p := 71) (j := 1) rfl
                                                    have c2876 := sf_mf tw2872 (p := 1) (j := 5) rfl
                                                    have c2877 := sf_mf tw2872 (p := 71) (j := 5) rfl
                                                    have c2878 := sf_mf tw2872 (p := 13) (j := 1) rfl
                                                    have c2879 := sf_mf tw2872 (p := 71) (j := 10) rfl
                                                    have c2880 := sf_mf tw2872 (p := 21) (j := 1) rfl
                                                    have c2881 := sf_mf tw2872 (p := 71) (j := 18) rfl
                                                    have c2882 := sf_mf tw2872 (p := 35) (j := 0) rfl
                                                    have c2883 := sf_mf tw2872 (p := 71) (j := 35) rfl
                                                    have c2884 := sf_ma tw2872 (p := 3) rfl
                                                    have c2885 := sf_ma tw2872 (p := 72) rfl
                                                    have c2886 := sf_mg tw2872 (p := 10) rfl
                                                    have c2887 := sf_ma tw2872 (p := 93) rfl
                                                    have c2888 := sf_ma tw2872 (p := 2) rfl
                                                    have c2889 := sf_ma tw2872 (p := 6) rfl
                                                    have c2890 := sf_ma tw2872 (p := 75) rfl
                                                    have c2891 := sf_ma tw2872 (p := 7) rfl
                                                    have c2892 := sf_ma tw2872 (p := 76) rfl
                                                    have c2893 := sf_ma tw2872 (p := 8) rfl
                                                    have c2894 := sf_ma tw2872 (p := 77) rfl
                                                    have c2895 := sf_ma tw2872 (p := 9) rfl
                                                    have c2896 := sf_ma tw2872 (p := 78) rfl
                                                    have c2897 := sf_ma tw2872 (p := 14) rfl
                                                    have c2898 := sf_ma tw2872 (p := 79) rfl
                                                    have c2899 := sf_ma tw2872 (p := 15) rfl
                                                    have c2900 := sf_ma tw2872 (p := 80) rfl
                                                    have c2901 := sf_ma tw2872 (p := 16) rfl
                                                    have c2902 := sf_ma tw2872 (p := 81) rfl
                                                    have c2903 := sf_ma tw2872 (p := 17) rfl
                                                    have c2904 := sf_ma tw2872 (p := 82) rfl
                                                    have c2905 := sf_ma tw2872 (p := 18) rfl
                                                    have c2906 := sf_ma tw2872 (p := 83) rfl
                                                    have c2907 := sf_ma tw2872 (p := 19) rfl
                                                    have c2908 := sf_ma tw2872 (p := 84) rfl
                                                    have c2909 := sf_ma tw2872 (p := 20) rfl
                                                    have c2910 := sf_ma tw2872 (p := 85) rfl
                                                    have c2911 := sf_ma tw2872 (p := 24) rfl
                                                    have c2912 := sf_ma tw2872 (p := 86) rfl
                                                    have c2913 := sf_ma tw2872 (p := 25) rfl
                                                    have c2914 := sf_ma tw2872 (p := 87) rfl
                                                    have c2915 := sf_ma tw2872 (p := 23) rfl
                                                    have c2916 := sf_ma tw2872 (p := 88) rfl
                                                    have c2917 := sf_ma tw2872 (p := 26) rfl
                                                    have c2918 := sf_ma tw2872 (p := 89) rfl
                                                    have c2919 := sf_ma tw2872 (p := 27) rfl
                                                    have c2920 := sf_ma tw2872 (p := 90) rfl
                                                    have c2921 := sf_ma tw2872 (p := 36) rfl
                                                    have c2922 := sf_ma tw2872 (p := 102) rfl
                                                    have c2923 := sf_ma tw2872 (p := 37) rfl
                                                    have c2924 := sf_ma tw2872 (p := 103) rfl
                                                    refine sf_istore (L' := [(0, .inl (.ref 100000)), (1, .inl (.ref 0)), (2, .inl (.ref 71)), (3, .inl (.ref 130)), (4, .inl (.int x4))]) rfl ?_
                                                    refine sf_aload rfl ?_
                                                    refine sf_aload rfl ?_
                                                    refine sf_iload rfl ?_
                                                    refine sf_iconst sf_c1 (fun z2925 ez2925 => ?_)
                                                    refine sf_iadd (by omega) (fun v2926 ev2926 => ?_)
                                                    refine sf_sldk (x := x4) (k := 1) (by omega) (by omega) (by omega) ?_
                                                    clear ev2926 ez2925
                                                    refine sf_aload rfl ?_
                                                    refine sf_iload rfl ?_
                                                    refine sf_iconst sf_c2 (fun z2927 ez2927 => ?_)
                                                    refine sf_iadd (by omega) (fun v2928 ev2928 => ?_)
                                                    refine sf_sldk (x := x4) (k := 2) (by omega) (by omega) (by omega) ?_
                                                    clear ev2928 ez2927
                                                    refine sf_callv3 rfl (by omega) (by omega) ?_
                                                    refine sf_rv Iw2872 rfl ?_
                                                    refine sc_M_account Iw2872  (fun v2929 w2930 Iw2930 tw2930 => ?_)
                                                    have c2932 := sf_mf tw2930 (p := 1) (j := 0) rfl
                                                    have c2933 := sf_mf tw2930 (p := 71) (j := 1) rfl
                                                    have c2934 := sf_mf tw2930 (p := 1) (j := 5) rfl
                                                    have c2935 := sf_mf tw2930 (p := 71) (j := 5) rfl
                                                    have c2936 := sf_mf tw2930 (p := 13) (j := 1) rfl
                                                    have c2937 := sf_mf tw2930 (p := 71) (j := 10) rfl
                                                    have c2938 := sf_mf tw2930 (p := 21) (j := 1) rfl
                                                    have c2939 := sf_mf tw2930 (p := 71) (j := 18) rfl
                                                    have c2940 := sf_mf tw2930 (p := 35) (j := 0) rfl
                                                    have c2941 := sf_mf tw2930 (p := 71) (j := 35) rfl
                                                    have c2942 := sf_ma tw2930 (p := 3) rfl
                                                    have c2943 := sf_ma tw2930 (p := 72) rfl
                                                    have c2944 := sf_mg tw2930 (p := 10) rfl
                                                    have c2945 := sf_ma tw2930 (p := 93) rfl
                                                    have c2946 := sf_mL tw2930 (p := 130) rfl
                                                    have c2947 := sf_ma tw2930 (p := 2) rfl
                                                    have c2948 := sf_ma tw2930 (p := 6) rfl
                                                    have c2949 := sf_ma tw2930 (p := 75) rfl
                                                    have c2950 := sf_ma tw2930 (p := 7) rfl
                                                    have c2951 := sf_ma tw2930 (p := 76) rfl
                                                    have c2952 := sf_ma tw2930 (p := 8) rfl
                                                    have c2953 := sf_ma tw2930 (p := 77) rfl
                                                    have c2954 := sf_ma tw2930 (p := 9) rfl
                                                    have c2955 := sf_ma tw2930 (p := 78) rfl
                                                    have c2956 := sf_ma tw2930 (p := 14) rfl
                                                    have c2957 := sf_ma tw2930 (p := 79) rfl
                                                    have c2958 := sf_ma tw2930 (p := 15) rfl
                                                    have c2959 := sf_ma tw2930 (p := 80) rfl
                                                    have c2960 := sf_ma tw2930 (p := 16) rfl
                                                    have c2961 := sf_ma tw2930 (p := 81) rfl
                                                    have c2962 := sf_ma tw2930 (p := 17) rfl
                                                    have c2963 := sf_ma tw2930 (p := 82) rfl
                                                    have c2964 := sf_ma tw2930 (p := 18) rfl
                                                    have c2965 := sf_ma tw2930 (p := 83) rfl
                                                    have c2966 := sf_ma tw2930 (p := 19) rfl
                                                    have c2967 := sf_ma tw2930 (p := 84) rfl
                                                    have c2968 := sf_ma tw2930 (p := 20) rfl
                                                    have c2969 := sf_ma tw2930 (p := 85) rfl
                                                    have c2970 := sf_ma tw2930 (p := 24) rfl
                                                    have c2971 := sf_ma tw2930 (p := 86) rfl
                                                    have c2972 := sf_ma tw2930 (p := 25) rfl
                                                    have c2973 := sf_ma tw2930 (p := 87) rfl
                                                    have c2974 := sf_ma tw2930 (p := 23) rfl
                                                    have c2975 := sf_ma tw2930 (p := 88) rfl
                                                    have c2976 := sf_ma tw2930 (p := 26) rfl
                                                    have c2977 := sf_ma tw2930 (p := 89) rfl
                                                    have c2978 := sf_ma tw2930 (p := 27) rfl
                                                    have c2979 := sf_ma tw2930 (p := 90) rfl
                                                    have c2980 := sf_ma tw2930 (p := 36) rfl
                                                    have c2981 := sf_ma tw2930 (p := 102) rfl
                                                    have c2982 := sf_ma tw2930 (p := 37) rfl
                                                    have c2983 := sf_ma tw2930 (p := 103) rfl
                                                    refine sf_lstore (L' := [(5, .inl (.int v2871)), (0, .inl (.ref 100000)), (1, .inl (.ref 0)), (2, .inl (.ref 71)), (3, .inl (.ref 130)), (4, .inl (.int x4))]) rfl ?_
                                                    show kt_W_law_1421 N xs K _ _ _ _ _
                                                    refine sf_iinc (L' := [(6, .inl (.long v2929)), (5, .inl (.int v2871)), (0, .inl (.ref 100000)), (1, .inl (.ref 0)), (2, .inl (.ref 71)), (3, .inl (.ref 130))]) (x := x4) sf_c8 rfl rfl (by omega) (fun v2984 ev2984 => ?_)
                                                    refine sf_can (L' := [(0, .inl (.ref 100000)), (1, .inl (.ref 0)), (2, .inl (.ref 71)), (3, .inl (.ref 130)), (4, .inl (.int v2984))]) rfl ?_
                                                    exact ih _ _ _ _ Iw2930 (by omega) (by omega) (by omega) (by omega) (by rw [c2932, c2874]; rw [c2933, c2875]; rw [c2934, c2876]; rw [c2935, c2877]; rw [c2936, c2878]; rw [c2937, c2879]; rw [c2938, c2880]; rw [c2939, c2881]; rw [c2940, c2882]; rw [c2941, c2883]; omega) (by rw [c2942, c2884]; rw [c2943, c2885]; rw [c2933, c2875]; first | exact f_1 | exact hJ) (by rw [c2944, c2886]; rw [c2945, c2887]; first | exact f_2 | exact hK2) (by rw [c2947, c2888]; rw [c2943, c2885]; rw [c2933, c2875]; first | exact f_3 | exact hQ2) (by rw [c2948, c2889]; rw [c2949, c2890]; rw [c2935, c2877]; first | exact f_4 | exact hQ6) (by rw [c2950, c2891]; rw [c2951, c2892]; rw [c2935, c2877]; first | exact f_5 | exact hQ7) (by rw [c2952, c2893]; rw [c2953, c2894]; rw [c2935, c2877]; first | exact f_6 | exact hQ8) (by rw [c2954, c2895]; rw [c2955, c2896]; rw [c2935, c2877]; first | exact f_7 | exact hQ9) (by rw [c2956, c2897]; rw [c2957, c2898]; rw [c2937, c2879]; first | exact f_8 | exact hQ14) (by rw [c2958, c2899]; rw [c2959, c2900]; rw [c2937, c2879]; first | exact f_9 | exact hQ15) (by rw [c2960, c2901]; rw [c2961, c2902]; rw [c2937, c2879]; first | exact f_10 | exact hQ16) (by rw [c2962, c2903]; rw [c2963, c2904]; rw [c2937, c2879]; first | exact f_11 | exact hQ17) (by rw [c2964, c2905]; rw [c2965, c2906]; rw [c2937, c2879]; first | exact f_12 | exact hQ18) (by rw [c2966, c2907]; rw [c2967, c2908]; rw [c2937, c2879]; first | exact f_13 | exact hQ19) (by rw [c2968, c2909]; rw [c2969, c2910]; rw [c2937, c2879]; first | exact f_14 | exact hQ20) (by rw [c2970, c2911]; rw [c2971, c2912]; rw [c2939, c2881]; first | exact f_15 | exact hQ24) (by rw [c2972, c2913]; rw [c2973, c2914]; rw [c2939, c2881]; first | exact f_16 | exact hQ25) (by rw [c2974, c2915]; rw [c2975, c2916]; rw [c2939, c2881]; first | exact f_17 | exact hQ23) (by rw [c2976, c2917]; rw [c2977, c2918]; rw [c2939, c2881]; first | exact f_18 | exact hQ26) (by rw [c2978, c2919]; rw [c2979, c2920]; rw [c2939, c2881]; first | exact f_19 | exact hQ27) (by rw [c2980, c2921]; rw [c2981, c2922]; rw [c2941, c2883]; first | exact f_20 | exact hQ36) (by rw [c2982, c2923]; rw [c2983, c2924]; rw [c2941, c2883]; first | exact f_21 | exact hQ37) (by omega)
                                                  · clear h2866
                                                    refine sf_sw1 sf_c23 (fun h2985 => ?_) (fun h2985 => ?_)
                                                    · refine sf_aload rfl ?_
                                                      refine sf_aload rfl ?_
                                                      refine sf_iload rfl ?_
                                                      refine sf_iconst sf_c1 (fun z2986 ez2986 => ?_)
                                                      refine sf_iadd (by omega) (fun v2987 ev2987 => ?_)
                                                      refine sf_sldk (x := x4) (k := 1) (by omega) (by omega) (by omega) ?_
                                                      clear ev2987 ez2986
                                                      refine sf_aload rfl ?_
                                                      refine sf_callv3 rfl (by omega) (by omega) ?_
                                                      refine sc_W_books_0_130 I_w  (fun v2988 w2989 Iw2989 tw2989 lv2988 uv2988 => ?_)
                                                      have c2991 := sf_mf tw2989 (p := 1) (j := 0) rfl
                                                      have c2992 := sf_mf tw2989 (p := 71) (j := 1) rfl
                                                      have c2993 := sf_mf tw2989 (p := 1) (j := 5) rfl
                                                      have c2994 := sf_mf tw2989 (p := 71) (j := 5) rfl
                                                      have c2995 := sf_mf tw2989 (p := 13) (j := 1) rfl
                                                      have c2996 := sf_mf tw2989 (p := 71) (j := 10) rfl
                                                      have c2997 := sf_mf tw2989 (p := 21) (j := 1) rfl
                                                      have c2998 := sf_mf tw2989 (p := 71) (j := 18) rfl
                                                      have c2999 := sf_mf tw2989 (p := 35) (j := 0) rfl
                                                      have c3000 := sf_mf tw2989 (p := 71) (j := 35) rfl
                                                      have c3001 := sf_ma tw2989 (p := 3) rfl
                                                      have c3002 := sf_ma tw2989 (p := 72) rfl
                                                      have c3003 := sf_mg tw2989 (p := 10) rfl
                                                      have c3004 := sf_ma tw2989 (p := 93) rfl
                                                      have c3005 := sf_ma tw2989 (p := 2) rfl
                                                      have c3006 := sf_ma tw2989 (p := 6) rfl
                                                      have c3007 := sf_ma tw2989 (p := 75) rfl
                                                      have c3008 := sf_ma tw2989 (p := 7) rfl
                                                      have c3009 := sf_ma tw2989 (p := 76) rfl
                                                      have c3010 := sf_ma tw2989 (p := 8) rfl
                                                      have c3011 := sf_ma tw2989 (p := 77) rfl
                                                      have c3012 := sf_ma tw2989 (p := 9) rfl
                                                      have c3013 := sf_ma tw2989 (p := 78) rfl
                                                      have c3014 := sf_ma tw2989 (p := 14) rfl
                                                      have c3015 := sf_ma tw2989 (p := 79) rfl
                                                      have c3016 := sf_ma tw2989 (p := 15) rfl
                                                      have c3017 := sf_ma tw2989 (p := 80) rfl
                                                      have c3018 := sf_ma tw2989 (p := 16) rfl
                                                      have c3019 := sf_ma tw2989 (p := 81) rfl
                                                      have c3020 := sf_ma tw2989 (p := 17) rfl
                                                      have c3021 := sf_ma tw2989 (p := 82) rfl
                                                      have c3022 := sf_ma tw2989 (p := 18) rfl
                                                      have c3023 := sf_ma tw2989 (p := 83) rfl
                                                      have c3024 := sf_ma tw2989 (p := 19) rfl
                                                      have c3025 := sf_ma tw2989 (p := 84) rfl
                                                      have c3026 := sf_ma tw2989 (p := 20) rfl
                                                      have c3027 := sf_ma tw2989 (p := 85) rfl
                                                      have c3028 := sf_ma tw2989 (p := 24) rfl
                                                      have c3029 := sf_ma tw2989 (p := 86) rfl
                                                      have c3030 := sf_ma tw2989 (p := 25) rfl
                                                      have c3031 := sf_ma tw2989 (p := 87) rfl
                                                      have c3032 := sf_ma tw2989 (p := 23) rfl
                                                      have c3033 := sf_ma tw2989 (p := 88) rfl
                                                      have c3034 := sf_ma tw2989 (p := 26) rfl
                                                      have c3035 := sf_ma tw2989 (p := 89) rfl
                                                      have c3036 := sf_ma tw2989 (p := 27) rfl
                                                      have c3037 := sf_ma tw2989 (p := 90) rfl
                                                      have c3038 := sf_ma tw2989 (p := 36) rfl
                                                      have c3039 := sf_ma tw2989 (p := 102) rfl
                                                      have c3040 := sf_ma tw2989 (p := 37) rfl
                                                      have c3041 := sf_ma tw2989 (p := 103) rfl
                                                      refine sf_istore (L' := [(0, .inl (.ref 100000)), (1, .inl (.ref 0)), (2, .inl (.ref 71)), (3, .inl (.ref 130)), (4, .inl (.int x4))]) rfl ?_
                                                      refine sf_aload rfl ?_
                                                      refine sf_aload rfl ?_
                                                      refine sf_iload rfl ?_
                                                      refine sf_iconst sf_c1 (fun z3042 ez3042 => ?_)
                                                      refine sf_iadd (by omega) (fun v3043 ev3043 => ?_)
                                                      refine sf_sldk (x := x4) (k := 1) (by omega) (by omega) (by omega) ?_
                                                      clear ev3043 ez3042
                                                      refine sf_callv2 rfl (by omega) (by omega) ?_
                                                      refine sf_rv Iw2989 rfl ?_
                                                      refine sc_M_books Iw2989  (fun v3044 w3045 Iw3045 tw3045 => ?_)
                                                      have c3047 := sf_mf tw3045 (p := 1) (j := 0) rfl
                                                      have c3048 := sf_mf tw3045 (p := 71) (j := 1) rfl
                                                      have c3049 := sf_mf tw3045 (p := 1) (j := 5) rfl
                                                      have c3050 := sf_mf tw3045 (p := 71) (j := 5) rfl
                                                      have c3051 := sf_mf tw3045 (p := 13) (j := 1) rfl
                                                      have c3052 := sf_mf tw3045 (p := 71) (j := 10) rfl
                                                      have c3053 := sf_mf tw3045 (p := 21) (j := 1) rfl
                                                      have c3054 := sf_mf tw3045 (p := 71) (j := 18) rfl
                                                      have c3055 := sf_mf tw3045 (p := 35) (j := 0) rfl
                                                      have c3056 := sf_mf tw3045 (p := 71) (j := 35) rfl
                                                      have c3057 := sf_ma tw3045 (p := 3) rfl
                                                      have c3058 := sf_ma tw3045 (p := 72) rfl
                                                      have c3059 := sf_mg tw3045 (p := 10) rfl
                                                      have c3060 := sf_ma tw3045 (p := 93) rfl
                                                      have c3061 := sf_mL tw3045 (p := 130) rfl
                                                      have c3062 := sf_ma tw3045 (p := 2) rfl
                                                      have c3063 := sf_ma tw3045 (p := 6) rfl
                                                      have c3064 := sf_ma tw3045 (p := 75) rfl
                                                      have c3065 := sf_ma tw3045 (p := 7) rfl
                                                      have c3066 := sf_ma tw3045 (p := 76) rfl
                                                      have c3067 := sf_ma tw3045 (p := 8) rfl
                                                      have c3068 := sf_ma tw3045 (p := 77) rfl
                                                      have c3069 := sf_ma tw3045 (p := 9) rfl
                                                      have c3070 := sf_ma tw3045 (p := 78) rfl
                                                      have c3071 := sf_ma tw3045 (p := 14) rfl
                                                      have c3072 := sf_ma tw3045 (p := 79) rfl
                                                      have c3073 := sf_ma tw3045 (p := 15) rfl
                                                      have c3074 := sf_ma tw3045 (p := 80) rfl
                                                      have c3075 := sf_ma tw3045 (p := 16) rfl
                                                      have c3076 := sf_ma tw3045 (p := 81) rfl
                                                      have c3077 := sf_ma tw3045 (p := 17) rfl
                                                      have c3078 := sf_ma tw3045 (p := 82) rfl
                                                      have c3079 := sf_ma tw3045 (p := 18) rfl
                                                      have c3080 := sf_ma tw3045 (p := 83) rfl
                                                      have c3081 := sf_ma tw3045 (p := 19) rfl
                                                      have c3082 := sf_ma tw3045 (p := 84) rfl
                                                      have c3083 := sf_ma tw3045 (p := 20) rfl
                                                      have c3084 := sf_ma tw3045 (p := 85) rfl
                                                      have c3085 := sf_ma tw3045 (p := 24) rfl
                                                      have c3086 := sf_ma tw3045 (p := 86) rfl
                                                      have c3087 := sf_ma tw3045 (p := 25) rfl
                                                      have c3088 := sf_ma tw3045 (p := 87) rfl
                                                      have c3089 := sf_ma tw3045 (p := 23) rfl
                                                      have c3090 := sf_ma tw3045 (p := 88) rfl
                                                      have c3091 := sf_ma tw3045 (p := 26) rfl
                                                      have c3092 := sf_ma tw3045 (p := 89) rfl
                                                      have c3093 := sf_ma tw3045 (p := 27) rfl
                                                      have c3094 := sf_ma tw3045 (p := 90) rfl
                                                      have c3095 := sf_ma tw3045 (p := 36) rfl
                                                      have c3096 := sf_ma tw3045 (p := 102) rfl
                                                      have c3097 := sf_ma tw3045 (p := 37) rfl
                                                      have c3098 := sf_ma tw3045 (p := 103) rfl
                                                      refine sf_lstore (L' := [(5, .inl (.int v2988)), (0, .inl (.ref 100000)), (1, .inl (.ref 0)), (2, .inl (.ref 71)), (3, .inl (.ref 130)), (4, .inl (.int x4))]) rfl ?_
                                                      show kt_W_law_1421 N xs K _ _ _ _ _
                                                      refine sf_iinc (L' := [(6, .inl (.long v3044)), (5, .inl (.int v2988)), (0, .inl (.ref 100000)), (1, .inl (.ref 0)), (2, .inl (.ref 71)), (3, .inl (.ref 130))]) (x := x4) sf_c8 rfl rfl (by omega) (fun v3099 ev3099 => ?_)
                                                      refine sf_can (L' := [(0, .inl (.ref 100000)), (1, .inl (.ref 0)), (2, .inl (.ref 71)), (3, .inl (.ref 130)), (4, .inl (.int v3099))]) rfl ?_
                                                      exact ih _ _ _ _ Iw3045 (by omega) (by omega) (by omega) (by omega) (by rw [c3047, c2991]; rw [c3048, c2992]; rw [c3049, c2993]; rw [c3050, c2994]; rw [c3051, c2995]; rw [c3052, c2996]; rw [c3053, c2997]; rw [c3054, c2998]; rw [c3055, c2999]; rw [c3056, c3000]; omega) (by rw [c3057, c3001]; rw [c3058, c3002]; rw [c3048, c2992]; first | exact f_1 | exact hJ) (by rw [c3059, c3003]; rw [c3060, c3004]; first | exact f_2 | exact hK2) (by rw [c3062, c3005]; rw [c3058, c3002]; rw [c3048, c2992]; first | exact f_3 | exact hQ2) (by rw [c3063, c3006]; rw [c3064, c3007]; rw [c3050, c2994]; first | exact f_4 | exact hQ6) (by rw [c3065, c3008]; rw [c3066, c3009]; rw [c3050, c2994]; first | exact f_5 | exact hQ7) (by rw [c3067, c3010]; rw [c3068, c3011]; rw [c3050, c2994]; first | exact f_6 | exact hQ8) (by rw [c3069, c3012]; rw [c3070, c3013]; rw [c3050, c2994]; first | exact f_7 | exact hQ9) (by rw [c3071, c3014]; rw [c3072, c3015]; rw [c3052, c2996]; first | exact f_8 | exact hQ14) (by rw [c3073, c3016]; rw [c3074, c3017]; rw [c3052, c2996]; first | exact f_9 | exact hQ15) (by rw [c3075, c3018]; rw [c3076, c3019]; rw [c3052, c2996]; first | exact f_10 | exact hQ16) (by rw [c3077, c3020]; rw [c3078, c3021]; rw [c3052, c2996]; first | exact f_11 | exact hQ17) (by rw [c3079, c3022]; rw [c3080, c3023]; rw [c3052, c2996]; first | exact f_12 | exact hQ18) (by rw [c3081, c3024]; rw [c3082, c3025]; rw [c3052, c2996]; first | exact f_13 | exact hQ19) (by rw [c3083, c3026]; rw [c3084, c3027]; rw [c3052, c2996]; first | exact f_14 | exact hQ20) (by rw [c3085, c3028]; rw [c3086, c3029]; rw [c3054, c2998]; first | exact f_15 | exact hQ24) (by rw [c3087, c3030]; rw [c3088, c3031]; rw [c3054, c2998]; first | exact f_16 | exact hQ25) (by rw [c3089, c3032]; rw [c3090, c3033]; rw [c3054, c2998]; first | exact f_17 | exact hQ23) (by rw [c3091, c3034]; rw [c3092, c3035]; rw [c3054, c2998]; first | exact f_18 | exact hQ26) (by rw [c3093, c3036]; rw [c3094, c3037]; rw [c3054, c2998]; first | exact f_19 | exact hQ27) (by rw [c3095, c3038]; rw [c3096, c3039]; rw [c3056, c3000]; first | exact f_20 | exact hQ36) (by rw [c3097, c3040]; rw [c3098, c3041]; rw [c3056, c3000]; first | exact f_21 | exact hQ37) (by omega)
                                                    · clear h2985
                                                      refine sf_sw0 ?_
                                                      refine sf_iinc (L' := [(0, .inl (.ref 100000)), (1, .inl (.ref 0)), (2, .inl (.ref 71)), (3, .inl (.ref 130))]) (x := x4) sf_c8 rfl rfl (by omega) (fun v3100 ev3100 => ?_)
                                                      refine sf_can (L' := [(0, .inl (.ref 100000)), (1, .inl (.ref 0)), (2, .inl (.ref 71)), (3, .inl (.ref 130)), (4, .inl (.int v3100))]) rfl ?_
                                                      exact ih _ _ _ _ I_w (by omega) (by omega) (by omega) (by omega) (by omega) (by first | exact f_1 | exact hJ) (by first | exact f_2 | exact hK2) (by first | exact f_3 | exact hQ2) (by first | exact f_4 | exact hQ6) (by first | exact f_5 | exact hQ7) (by first | exact f_6 | exact hQ8) (by first | exact f_7 | exact hQ9) (by first | exact f_8 | exact hQ14) (by first | exact f_9 | exact hQ15) (by first | exact f_10 | exact hQ16) (by first | exact f_11 | exact hQ17) (by first | exact f_12 | exact hQ18) (by first | exact f_13 | exact hQ19) (by first | exact f_14 | exact hQ20) (by first | exact f_15 | exact hQ24) (by first | exact f_16 | exact hQ25) (by first | exact f_17 | exact hQ23) (by first | exact f_18 | exact hQ26) (by first | exact f_19 | exact hQ27) (by first | exact f_20 | exact hQ36) (by first | exact f_21 | exact hQ37) (by omega)
