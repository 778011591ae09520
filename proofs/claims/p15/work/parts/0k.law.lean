set_option maxRecDepth 100000 in
set_option maxHeartbeats 40000000 in
theorem sc_law (N : Nat) (hN : N ≤ 4096) (xs : Nat → Int32) : ∀ n : Nat, ∀ (w : wq_W) (x4 : Int32) (a b : Nat), sf_I w → 0 ≤ x4.toInt → x4.toInt ≤ (N : Int) → (a : Int) ≤ 207 + 100 * x4.toInt → (b : Int) ≤ 4018 + 600 * x4.toInt → ((sf_f w 1 0).toInt = (sf_f w 71 1).toInt ∧ (sf_f w 1 5).toInt = (sf_f w 71 5).toInt ∧ (sf_f w 13 1).toInt = (sf_f w 71 10).toInt ∧ (sf_f w 21 1).toInt = (sf_f w 71 18).toInt ∧ (sf_f w 35 0).toInt = (sf_f w 71 35).toInt) → (sf_J (sf_a w 3) (sf_a w 72) (sf_f w 71 1).toInt) → (sf_K (sf_g w 10) (sf_a w 93)) → (sf_Q (sf_f w 71 1).toInt (sf_a w 2) (sf_a w 72)) → (sf_Q (sf_f w 71 5).toInt (sf_a w 6) (sf_a w 75)) → (sf_Q (sf_f w 71 5).toInt (sf_a w 7) (sf_a w 76)) → (sf_Q (sf_f w 71 5).toInt (sf_a w 8) (sf_a w 77)) → (sf_Q (sf_f w 71 5).toInt (sf_a w 9) (sf_a w 78)) → (sf_Q (sf_f w 71 10).toInt (sf_a w 14) (sf_a w 79)) → (sf_Q (sf_f w 71 10).toInt (sf_a w 15) (sf_a w 80)) → (sf_Q (sf_f w 71 10).toInt (sf_a w 16) (sf_a w 81)) → (sf_Q (sf_f w 71 10).toInt (sf_a w 17) (sf_a w 82)) → (sf_Q (sf_f w 71 10).toInt (sf_a w 18) (sf_a w 83)) → (sf_Q (sf_f w 71 10).toInt (sf_a w 19) (sf_a w 84)) → (sf_Q (sf_f w 71 10).toInt (sf_a w 20) (sf_a w 85)) → (sf_Q (sf_f w 71 18).toInt (sf_a w 24) (sf_a w 86)) → (sf_Q (sf_f w 71 18).toInt (sf_a w 25) (sf_a w 87)) → (sf_Q (sf_f w 71 18).toInt (sf_a w 23) (sf_a w 88)) → (sf_Q (sf_f w 71 18).toInt (sf_a w 26) (sf_a w 89)) → (sf_Q (sf_f w 71 18).toInt (sf_a w 27) (sf_a w 90)) → (sf_Q (sf_f w 71 35).toInt (sf_a w 36) (sf_a w 102)) → (sf_Q (sf_f w 71 35).toInt (sf_a w 37) (sf_a w 103)) → (sl_RL (sf_f w 60 0).toInt (sf_f w 71 56).toInt (sf_a w 61) (sf_a w 62) (sf_a w 63) (sf_a w 65) (sf_a w 66) (sf_a w 121) (sf_a w 122) (sf_a w 123) (sf_a w 125) (sf_a w 126)) → (sl_RD (sf_a w 38) (sf_a w 104) (sf_a w 40) (sf_a w 106) (sf_a w 42) (sf_a w 107) (sf_a w 43) (sf_a w 108) (sf_a w 47) (sf_a w 109) (sf_a w 44) (sf_a w 110)) → (sl_RF (sf_a w 40) (sf_a w 38) (sf_a w 41) (sf_a w 113)) → (sl_RT (sf_a w 102) (sf_a w 103) (sf_a w 106) (sf_f w 71 35).toInt (sf_f w 71 41).toInt) → (sl_RU (sf_a w 106) (sf_f w 71 35).toInt) → (sf_Q 16 (sf_a w 68) (sf_a w 127) ∧ sf_Q 16 (sf_a w 69) (sf_a w 128) ∧ sf_Q 16 (sf_a w 70) (sf_a w 129)) → (N : Int) - x4.toInt < (n : Int) → ku_W_law N xs n 23 [(0, .inl (.ref 100000)), (1, .inl (.ref 0)), (2, .inl (.ref 71)), (3, .inl (.ref 130)), (4, .inl (.int x4))] [] w a b := by
  intro n
  induction n with
  | zero => intros; omega
  | succ n ih =>
    intro w x4 a b I_w l_x4 u_x4 ha hb f_0 f_1 f_2 f_3 f_4 f_5 f_6 f_7 f_8 f_9 f_10 f_11 f_12 f_13 f_14 f_15 f_16 f_17 f_18 f_19 f_20 f_21 f_22 f_23 f_24 f_25 f_26 f_27 hm
    show kh_W_law_23 N xs (ku_W_law N xs n) [(0, .inl (.ref 100000)), (1, .inl (.ref 0)), (2, .inl (.ref 71)), (3, .inl (.ref 130)), (4, .inl (.int x4))] [] w a b
    generalize ku_W_law N xs n = K at ih ⊢
    have hs : sf_m [] w w := sf_m0
    refine sf_iload rfl ?_
    refine sf_aload rfl ?_
    refine sf_slen hN (fun z1 ez1 => ?_)
    refine sf_iconst sf_c8 (fun z2 ez2 => ?_)
    refine sf_isub (by omega) (fun v3 ev3 => ?_)
    refine sf_f2_gt (fun h4 => ?_) (fun h4 => ?_)
    · refine sf_iconst sf_c1 (fun z5 ez5 => ?_)
      exact sf_lend (by omega) (by omega) (by omega)
    · refine sf_aload rfl ?_
      refine sf_iload rfl ?_
      refine sf_sld (by omega) (fun v6 => ?_)
      refine sf_iconst sf_c31 (fun z7 ez7 => ?_)
      refine sf_iand (n := 31) (by omega) (by decide) (fun v8 lv8 uv8 => ?_)
      refine sf_sw1 sf_c0 (fun h9 => ?_) (fun h9 => ?_)
      · refine sf_aload rfl ?_
        refine sf_aload rfl ?_
        refine sf_iload rfl ?_
        refine sf_iconst sf_c1 (fun z10 ez10 => ?_)
        refine sf_iadd (by omega) (fun v11 ev11 => ?_)
        refine sf_sldk (x := x4) (k := 1) (by omega) (by omega) (by omega) ?_
        clear ev11 ez10
        refine sf_aload rfl ?_
        refine sf_callv3 rfl (by omega) (by omega) ?_
        refine sc_W_heading_0_130 I_w  (fun v12 w13 Iw13 tw13 lv12 uv12 q14_0 q14_1 q14_2 => ?_)
        have c15 := sf_mf tw13 (p := 71) (j := 1) rfl
        have c16 := sf_mf tw13 (p := 1) (j := 5) rfl
        have c17 := sf_mf tw13 (p := 71) (j := 5) rfl
        have c18 := sf_mf tw13 (p := 13) (j := 1) rfl
        have c19 := sf_mf tw13 (p := 71) (j := 10) rfl
        have c20 := sf_mf tw13 (p := 21) (j := 1) rfl
        have c21 := sf_mf tw13 (p := 71) (j := 18) rfl
        have c22 := sf_mf tw13 (p := 35) (j := 0) rfl
        have c23 := sf_mf tw13 (p := 71) (j := 35) rfl
        have c24 := sf_ma tw13 (p := 72) rfl
        have c25 := sf_mg tw13 (p := 10) rfl
        have c26 := sf_ma tw13 (p := 93) rfl
        have c27 := sf_ma tw13 (p := 6) rfl
        have c28 := sf_ma tw13 (p := 75) rfl
        have c29 := sf_ma tw13 (p := 7) rfl
        have c30 := sf_ma tw13 (p := 76) rfl
        have c31 := sf_ma tw13 (p := 8) rfl
        have c32 := sf_ma tw13 (p := 77) rfl
        have c33 := sf_ma tw13 (p := 9) rfl
        have c34 := sf_ma tw13 (p := 78) rfl
        have c35 := sf_ma tw13 (p := 14) rfl
        have c36 := sf_ma tw13 (p := 79) rfl
        have c37 := sf_ma tw13 (p := 15) rfl
        have c38 := sf_ma tw13 (p := 80) rfl
        have c39 := sf_ma tw13 (p := 16) rfl
        have c40 := sf_ma tw13 (p := 81) rfl
        have c41 := sf_ma tw13 (p := 17) rfl
        have c42 := sf_ma tw13 (p := 82) rfl
        have c43 := sf_ma tw13 (p := 18) rfl
        have c44 := sf_ma tw13 (p := 83) rfl
        have c45 := sf_ma tw13 (p := 19) rfl
        have c46 := sf_ma tw13 (p := 84) rfl
        have c47 := sf_ma tw13 (p := 20) rfl
        have c48 := sf_ma tw13 (p := 85) rfl
        have c49 := sf_ma tw13 (p := 24) rfl
        have c50 := sf_ma tw13 (p := 86) rfl
        have c51 := sf_ma tw13 (p := 25) rfl
        have c52 := sf_ma tw13 (p := 87) rfl
        have c53 := sf_ma tw13 (p := 23) rfl
        have c54 := sf_ma tw13 (p := 88) rfl
        have c55 := sf_ma tw13 (p := 26) rfl
        have c56 := sf_ma tw13 (p := 89) rfl
        have c57 := sf_ma tw13 (p := 27) rfl
        have c58 := sf_ma tw13 (p := 90) rfl
        have c59 := sf_ma tw13 (p := 36) rfl
        have c60 := sf_ma tw13 (p := 102) rfl
        have c61 := sf_ma tw13 (p := 37) rfl
        have c62 := sf_ma tw13 (p := 103) rfl
        have c63 := sf_mf tw13 (p := 60) (j := 0) rfl
        have c64 := sf_ma tw13 (p := 61) rfl
        have c65 := sf_ma tw13 (p := 62) rfl
        have c66 := sf_ma tw13 (p := 63) rfl
        have c67 := sf_ma tw13 (p := 65) rfl
        have c68 := sf_ma tw13 (p := 66) rfl
        have c69 := sf_mf tw13 (p := 71) (j := 56) rfl
        have c70 := sf_ma tw13 (p := 121) rfl
        have c71 := sf_ma tw13 (p := 122) rfl
        have c72 := sf_ma tw13 (p := 123) rfl
        have c73 := sf_ma tw13 (p := 125) rfl
        have c74 := sf_ma tw13 (p := 126) rfl
        have c75 := sf_ma tw13 (p := 38) rfl
        have c76 := sf_ma tw13 (p := 40) rfl
        have c77 := sf_ma tw13 (p := 41) rfl
        have c78 := sf_ma tw13 (p := 42) rfl
        have c79 := sf_ma tw13 (p := 43) rfl
        have c80 := sf_ma tw13 (p := 44) rfl
        have c81 := sf_ma tw13 (p := 47) rfl
        have c82 := sf_ma tw13 (p := 104) rfl
        have c83 := sf_ma tw13 (p := 106) rfl
        have c84 := sf_ma tw13 (p := 113) rfl
        have c85 := sf_ma tw13 (p := 107) rfl
        have c86 := sf_ma tw13 (p := 108) rfl
        have c87 := sf_ma tw13 (p := 110) rfl
        have c88 := sf_ma tw13 (p := 109) rfl
        have c89 := sf_mf tw13 (p := 71) (j := 41) rfl
        have c90 := sf_ma tw13 (p := 68) rfl
        have c91 := sf_ma tw13 (p := 69) rfl
        have c92 := sf_ma tw13 (p := 70) rfl
        have c93 := sf_ma tw13 (p := 127) rfl
        have c94 := sf_ma tw13 (p := 128) rfl
        have c95 := sf_ma tw13 (p := 129) rfl
        have U2 := q14_2
        clear q14_2
        have F1 := q14_0
        have F2 := q14_1
        clear q14_0 q14_1
        have hHD : (sf_f w 1 0).toInt = (sf_f w 71 1).toInt := by omega
        rw [hHD] at F2
        refine sf_istore (L' := [(0, .inl (.ref 100000)), (1, .inl (.ref 0)), (2, .inl (.ref 71)), (3, .inl (.ref 130)), (4, .inl (.int x4))]) rfl ?_
        refine sf_aload rfl ?_
        refine sf_aload rfl ?_
        refine sf_iload rfl ?_
        refine sf_iconst sf_c1 (fun z96 ez96 => ?_)
        refine sf_iadd (by omega) (fun v97 ev97 => ?_)
        refine sf_sldk (x := x4) (k := 1) (by omega) (by omega) (by omega) ?_
        clear ev97 ez96
        refine sf_callv2 rfl (by omega) (by omega) ?_
        refine sf_rv Iw13 rfl ?_
        refine sc_M_heading Iw13 (by rw [c24]; rw [c15]; exact sf_J3 f_1 F2) (fun v98 w99 Iw99 tw99 lv98 uv98 q100_0 q100_1 q100_2 => ?_)
        rw [c15] at q100_0
        rw [c24] at q100_1
        rw [c15] at q100_1
        rw [c24] at q100_2
        rw [c15] at q100_2
        have c101 := sf_mf tw99 (p := 1) (j := 0) rfl
        have c102 := sf_mf tw99 (p := 1) (j := 5) rfl
        have c103 := sf_mf tw99 (p := 71) (j := 5) rfl
        have c104 := sf_mf tw99 (p := 13) (j := 1) rfl
        have c105 := sf_mf tw99 (p := 71) (j := 10) rfl
        have c106 := sf_mf tw99 (p := 21) (j := 1) rfl
        have c107 := sf_mf tw99 (p := 71) (j := 18) rfl
        have c108 := sf_mf tw99 (p := 35) (j := 0) rfl
        have c109 := sf_mf tw99 (p := 71) (j := 35) rfl
        have c110 := sf_ma tw99 (p := 3) rfl
        have c111 := sf_mg tw99 (p := 10) rfl
        have c112 := sf_ma tw99 (p := 93) rfl
        have c113 := sf_mL tw99 (p := 130) rfl
        have c114 := sf_ma tw99 (p := 2) rfl
        have c115 := sf_ma tw99 (p := 6) rfl
        have c116 := sf_ma tw99 (p := 75) rfl
        have c117 := sf_ma tw99 (p := 7) rfl
        have c118 := sf_ma tw99 (p := 76) rfl
        have c119 := sf_ma tw99 (p := 8) rfl
        have c120 := sf_ma tw99 (p := 77) rfl
        have c121 := sf_ma tw99 (p := 9) rfl
        have c122 := sf_ma tw99 (p := 78) rfl
        have c123 := sf_ma tw99 (p := 14) rfl
        have c124 := sf_ma tw99 (p := 79) rfl
        have c125 := sf_ma tw99 (p := 15) rfl
        have c126 := sf_ma tw99 (p := 80) rfl
        have c127 := sf_ma tw99 (p := 16) rfl
        have c128 := sf_ma tw99 (p := 81) rfl
        have c129 := sf_ma tw99 (p := 17) rfl
        have c130 := sf_ma tw99 (p := 82) rfl
        have c131 := sf_ma tw99 (p := 18) rfl
        have c132 := sf_ma tw99 (p := 83) rfl
        have c133 := sf_ma tw99 (p := 19) rfl
        have c134 := sf_ma tw99 (p := 84) rfl
        have c135 := sf_ma tw99 (p := 20) rfl
        have c136 := sf_ma tw99 (p := 85) rfl
        have c137 := sf_ma tw99 (p := 24) rfl
        have c138 := sf_ma tw99 (p := 86) rfl
        have c139 := sf_ma tw99 (p := 25) rfl
        have c140 := sf_ma tw99 (p := 87) rfl
        have c141 := sf_ma tw99 (p := 23) rfl
        have c142 := sf_ma tw99 (p := 88) rfl
        have c143 := sf_ma tw99 (p := 26) rfl
        have c144 := sf_ma tw99 (p := 89) rfl
        have c145 := sf_ma tw99 (p := 27) rfl
        have c146 := sf_ma tw99 (p := 90) rfl
        have c147 := sf_ma tw99 (p := 36) rfl
        have c148 := sf_ma tw99 (p := 102) rfl
        have c149 := sf_ma tw99 (p := 37) rfl
        have c150 := sf_ma tw99 (p := 103) rfl
        have c151 := sf_mf tw99 (p := 60) (j := 0) rfl
        have c152 := sf_ma tw99 (p := 61) rfl
        have c153 := sf_ma tw99 (p := 62) rfl
        have c154 := sf_ma tw99 (p := 63) rfl
        have c155 := sf_ma tw99 (p := 65) rfl
        have c156 := sf_ma tw99 (p := 66) rfl
        have c157 := sf_mf tw99 (p := 71) (j := 56) rfl
        have c158 := sf_ma tw99 (p := 121) rfl
        have c159 := sf_ma tw99 (p := 122) rfl
        have c160 := sf_ma tw99 (p := 123) rfl
        have c161 := sf_ma tw99 (p := 125) rfl
        have c162 := sf_ma tw99 (p := 126) rfl
        have c163 := sf_ma tw99 (p := 38) rfl
        have c164 := sf_ma tw99 (p := 40) rfl
        have c165 := sf_ma tw99 (p := 41) rfl
        have c166 := sf_ma tw99 (p := 42) rfl
        have c167 := sf_ma tw99 (p := 43) rfl
        have c168 := sf_ma tw99 (p := 44) rfl
        have c169 := sf_ma tw99 (p := 47) rfl
        have c170 := sf_ma tw99 (p := 104) rfl
        have c171 := sf_ma tw99 (p := 106) rfl
        have c172 := sf_ma tw99 (p := 113) rfl
        have c173 := sf_ma tw99 (p := 107) rfl
        have c174 := sf_ma tw99 (p := 108) rfl
        have c175 := sf_ma tw99 (p := 110) rfl
        have c176 := sf_ma tw99 (p := 109) rfl
        have c177 := sf_mf tw99 (p := 71) (j := 41) rfl
        have c178 := sf_ma tw99 (p := 68) rfl
        have c179 := sf_ma tw99 (p := 69) rfl
        have c180 := sf_ma tw99 (p := 70) rfl
        have c181 := sf_ma tw99 (p := 127) rfl
        have c182 := sf_ma tw99 (p := 128) rfl
        have c183 := sf_ma tw99 (p := 129) rfl
        have U72 := q100_2
        clear q100_2
        have G1 := q100_0
        have G2 := q100_1
        clear q100_0 q100_1
        have h00 := sf_hd I_w
        have hd3 : 0 ≤ (xs (x4.toInt.toNat + 1)).toInt → (xs (x4.toInt.toNat + 1)).toInt < (sf_f w 71 1).toInt → (sf_a w13 3 (xs (x4.toInt.toNat + 1)).toInt.toNat).toInt = (sf_a w 3 (xs (x4.toInt.toNat + 1)).toInt.toNat).toInt := fun h1 h2 => by rw [sf_F2d F2 h1 h2]
        have hrc : v12.toInt = (sf_f w99 71 0).toInt := by omega
        have hJ := sf_JH f_1 h00 F2 G2 hrc
        have hcn : (v12.toInt = 0 ∧ (sf_f w99 71 1).toInt = (sf_f w 71 1).toInt + 1) ∨ (v12.toInt ≠ 0 ∧ (sf_f w99 71 1).toInt = (sf_f w 71 1).toInt) := by omega
        have hQ2 := sf_QH f_3 U2 U72 (by omega) hrc hcn
        refine sf_istore (L' := [(5, .inl (.int v12)), (0, .inl (.ref 100000)), (1, .inl (.ref 0)), (2, .inl (.ref 71)), (3, .inl (.ref 130)), (4, .inl (.int x4))]) rfl ?_
        show kt_W_law_1421 N xs K _ _ _ _ _
        refine sf_iinc (L' := [(6, .inl (.int v98)), (5, .inl (.int v12)), (0, .inl (.ref 100000)), (1, .inl (.ref 0)), (2, .inl (.ref 71)), (3, .inl (.ref 130))]) (x := x4) sf_c8 rfl rfl (by omega) (fun v184 ev184 => ?_)
        refine sf_can (L' := [(0, .inl (.ref 100000)), (1, .inl (.ref 0)), (2, .inl (.ref 71)), (3, .inl (.ref 130)), (4, .inl (.int v184))]) rfl ?_
        exact ih _ _ _ _ Iw99 (by omega) (by omega) (by omega) (by omega) (by rw [c101]; rw [c102, c16]; rw [c103, c17]; rw [c104, c18]; rw [c105, c19]; rw [c106, c20]; rw [c107, c21]; rw [c108, c22]; rw [c109, c23]; omega) (by rw [c110]; first | exact f_1 | exact hJ) (by rw [c111, c25]; rw [c112, c26]; first | exact f_2 | exact hK2) (by rw [c114]; first | exact f_3 | exact hQ2) (by rw [c115, c27]; rw [c116, c28]; rw [c103, c17]; first | exact f_4 | exact hQ6) (by rw [c117, c29]; rw [c118, c30]; rw [c103, c17]; first | exact f_5 | exact hQ7) (by rw [c119, c31]; rw [c120, c32]; rw [c103, c17]; first | exact f_6 | exact hQ8) (by rw [c121, c33]; rw [c122, c34]; rw [c103, c17]; first | exact f_7 | exact hQ9) (by rw [c123, c35]; rw [c124, c36]; rw [c105, c19]; first | exact f_8 | exact hQ14) (by rw [c125, c37]; rw [c126, c38]; rw [c105, c19]; first | exact f_9 | exact hQ15) (by rw [c127, c39]; rw [c128, c40]; rw [c105, c19]; first | exact f_10 | exact hQ16) (by rw [c129, c41]; rw [c130, c42]; rw [c105, c19]; first | exact f_11 | exact hQ17) (by rw [c131, c43]; rw [c132, c44]; rw [c105, c19]; first | exact f_12 | exact hQ18) (by rw [c133, c45]; rw [c134, c46]; rw [c105, c19]; first | exact f_13 | exact hQ19) (by rw [c135, c47]; rw [c136, c48]; rw [c105, c19]; first | exact f_14 | exact hQ20) (by rw [c137, c49]; rw [c138, c50]; rw [c107, c21]; first | exact f_15 | exact hQ24) (by rw [c139, c51]; rw [c140, c52]; rw [c107, c21]; first | exact f_16 | exact hQ25) (by rw [c141, c53]; rw [c142, c54]; rw [c107, c21]; first | exact f_17 | exact hQ23) (by rw [c143, c55]; rw [c144, c56]; rw [c107, c21]; first | exact f_18 | exact hQ26) (by rw [c145, c57]; rw [c146, c58]; rw [c107, c21]; first | exact f_19 | exact hQ27) (by rw [c147, c59]; rw [c148, c60]; rw [c109, c23]; first | exact f_20 | exact hQ36) (by rw [c149, c61]; rw [c150, c62]; rw [c109, c23]; first | exact f_21 | exact hQ37) (by rw [c151, c63]; rw [c157, c69]; rw [c152, c64]; rw [c153, c65]; rw [c154, c66]; rw [c155, c67]; rw [c156, c68]; rw [c158, c70]; rw [c159, c71]; rw [c160, c72]; rw [c161, c73]; rw [c162, c74]; exact f_22) (by rw [c163, c75]; rw [c170, c82]; rw [c164, c76]; rw [c171, c83]; rw [c166, c78]; rw [c173, c85]; rw [c167, c79]; rw [c174, c86]; rw [c169, c81]; rw [c176, c88]; rw [c168, c80]; rw [c175, c87]; exact f_23) (by rw [c164, c76]; rw [c163, c75]; rw [c165, c77]; rw [c172, c84]; exact f_24) (by rw [c148, c60]; rw [c150, c62]; rw [c171, c83]; rw [c109, c23]; rw [c177, c89]; exact f_25) (by rw [c171, c83]; rw [c109, c23]; exact f_26) (by rw [c178, c90]; rw [c181, c93]; rw [c179, c91]; rw [c182, c94]; rw [c180, c92]; rw [c183, c95]; exact f_27) (by omega)
      · clear h9
        refine sf_sw1 sf_c1 (fun h185 => ?_) (fun h185 => ?_)
        · refine sf_aload rfl ?_
          refine sf_aload rfl ?_
          refine sf_iload rfl ?_
          refine sf_iconst sf_c1 (fun z186 ez186 => ?_)
          refine sf_iadd (by omega) (fun v187 ev187 => ?_)
          refine sf_sldk (x := x4) (k := 1) (by omega) (by omega) (by omega) ?_
          clear ev187 ez186
          refine sf_aload rfl ?_
          refine sf_iload rfl ?_
          refine sf_iconst sf_c2 (fun z188 ez188 => ?_)
          refine sf_iadd (by omega) (fun v189 ev189 => ?_)
          refine sf_sldk (x := x4) (k := 2) (by omega) (by omega) (by omega) ?_
          clear ev189 ez188
          refine sf_aload rfl ?_
          refine sf_iload rfl ?_
          refine sf_iconst sf_c3 (fun z190 ez190 => ?_)
          refine sf_iadd (by omega) (fun v191 ev191 => ?_)
          refine sf_sldk (x := x4) (k := 3) (by omega) (by omega) (by omega) ?_
          clear ev191 ez190
          refine sf_aload rfl ?_
          refine sf_iload rfl ?_
          refine sf_iconst sf_c4 (fun z192 ez192 => ?_)
          refine sf_iadd (by omega) (fun v193 ev193 => ?_)
          refine sf_sldk (x := x4) (k := 4) (by omega) (by omega) (by omega) ?_
          clear ev193 ez192
          refine sf_aload rfl ?_
          refine sf_callv6 rfl (by omega) (by omega) ?_
          refine sc_W_note_0_130 I_w  (fun v194 w195 Iw195 tw195 lv194 uv194 q196_0 q196_1 q196_2 q196_3 q196_4 => ?_)
          have c197 := sf_mf tw195 (p := 1) (j := 0) rfl
          have c198 := sf_mf tw195 (p := 71) (j := 1) rfl
          have c199 := sf_mf tw195 (p := 71) (j := 5) rfl
          have c200 := sf_mf tw195 (p := 13) (j := 1) rfl
          have c201 := sf_mf tw195 (p := 71) (j := 10) rfl
          have c202 := sf_mf tw195 (p := 21) (j := 1) rfl
          have c203 := sf_mf tw195 (p := 71) (j := 18) rfl
          have c204 := sf_mf tw195 (p := 35) (j := 0) rfl
          have c205 := sf_mf tw195 (p := 71) (j := 35) rfl
          have c206 := sf_ma tw195 (p := 3) rfl
          have c207 := sf_ma tw195 (p := 72) rfl
          have c208 := sf_mg tw195 (p := 10) rfl
          have c209 := sf_ma tw195 (p := 93) rfl
          have c210 := sf_ma tw195 (p := 2) rfl
          have c211 := sf_ma tw195 (p := 75) rfl
          have c212 := sf_ma tw195 (p := 76) rfl
          have c213 := sf_ma tw195 (p := 77) rfl
          have c214 := sf_ma tw195 (p := 78) rfl
          have c215 := sf_ma tw195 (p := 14) rfl
          have c216 := sf_ma tw195 (p := 79) rfl
          have c217 := sf_ma tw195 (p := 15) rfl
          have c218 := sf_ma tw195 (p := 80) rfl
          have c219 := sf_ma tw195 (p := 16) rfl
          have c220 := sf_ma tw195 (p := 81) rfl
          have c221 := sf_ma tw195 (p := 17) rfl
          have c222 := sf_ma tw195 (p := 82) rfl
          have c223 := sf_ma tw195 (p := 18) rfl
          have c224 := sf_ma tw195 (p := 83) rfl
          have c225 := sf_ma tw195 (p := 19) rfl
          have c226 := sf_ma tw195 (p := 84) rfl
          have c227 := sf_ma tw195 (p := 20) rfl
          have c228 := sf_ma tw195 (p := 85) rfl
          have c229 := sf_ma tw195 (p := 24) rfl
          have c230 := sf_ma tw195 (p := 86) rfl
          have c231 := sf_ma tw195 (p := 25) rfl
          have c232 := sf_ma tw195 (p := 87) rfl
          have c233 := sf_ma tw195 (p := 23) rfl
          have c234 := sf_ma tw195 (p := 88) rfl
          have c235 := sf_ma tw195 (p := 26) rfl
          have c236 := sf_ma tw195 (p := 89) rfl
          have c237 := sf_ma tw195 (p := 27) rfl
          have c238 := sf_ma tw195 (p := 90) rfl
          have c239 := sf_ma tw195 (p := 36) rfl
          have c240 := sf_ma tw195 (p := 102) rfl
          have c241 := sf_ma tw195 (p := 37) rfl
          have c242 := sf_ma tw195 (p := 103) rfl
          have c243 := sf_mf tw195 (p := 60) (j := 0) rfl
          have c244 := sf_ma tw195 (p := 61) rfl
          have c245 := sf_ma tw195 (p := 62) rfl
          have c246 := sf_ma tw195 (p := 63) rfl
          have c247 := sf_ma tw195 (p := 65) rfl
          have c248 := sf_ma tw195 (p := 66) rfl
          have c249 := sf_mf tw195 (p := 71) (j := 56) rfl
          have c250 := sf_ma tw195 (p := 121) rfl
          have c251 := sf_ma tw195 (p := 122) rfl
          have c252 := sf_ma tw195 (p := 123) rfl
          have c253 := sf_ma tw195 (p := 125) rfl
          have c254 := sf_ma tw195 (p := 126) rfl
          have c255 := sf_ma tw195 (p := 38) rfl
          have c256 := sf_ma tw195 (p := 40) rfl
          have c257 := sf_ma tw195 (p := 41) rfl
          have c258 := sf_ma tw195 (p := 42) rfl
          have c259 := sf_ma tw195 (p := 43) rfl
          have c260 := sf_ma tw195 (p := 44) rfl
          have c261 := sf_ma tw195 (p := 47) rfl
          have c262 := sf_ma tw195 (p := 104) rfl
          have c263 := sf_ma tw195 (p := 106) rfl
          have c264 := sf_ma tw195 (p := 113) rfl
          have c265 := sf_ma tw195 (p := 107) rfl
          have c266 := sf_ma tw195 (p := 108) rfl
          have c267 := sf_ma tw195 (p := 110) rfl
          have c268 := sf_ma tw195 (p := 109) rfl
          have c269 := sf_mf tw195 (p := 71) (j := 41) rfl
          have c270 := sf_ma tw195 (p := 68) rfl
          have c271 := sf_ma tw195 (p := 69) rfl
          have c272 := sf_ma tw195 (p := 70) rfl
          have c273 := sf_ma tw195 (p := 127) rfl
          have c274 := sf_ma tw195 (p := 128) rfl
          have c275 := sf_ma tw195 (p := 129) rfl
          have U6 := q196_1
          have U7 := q196_2
          have U8 := q196_3
          have U9 := q196_4
          clear q196_1 q196_2 q196_3 q196_4
          have F1 := q196_0
          refine sf_istore (L' := [(0, .inl (.ref 100000)), (1, .inl (.ref 0)), (2, .inl (.ref 71)), (3, .inl (.ref 130)), (4, .inl (.int x4))]) rfl ?_
          refine sf_aload rfl ?_
          refine sf_aload rfl ?_
          refine sf_iload rfl ?_
          refine sf_iconst sf_c1 (fun z276 ez276 => ?_)
          refine sf_iadd (by omega) (fun v277 ev277 => ?_)
          refine sf_sldk (x := x4) (k := 1) (by omega) (by omega) (by omega) ?_
          clear ev277 ez276
          refine sf_aload rfl ?_
          refine sf_iload rfl ?_
          refine sf_iconst sf_c2 (fun z278 ez278 => ?_)
          refine sf_iadd (by omega) (fun v279 ev279 => ?_)
          refine sf_sldk (x := x4) (k := 2) (by omega) (by omega) (by omega) ?_
          clear ev279 ez278
          refine sf_aload rfl ?_
          refine sf_iload rfl ?_
          refine sf_iconst sf_c3 (fun z280 ez280 => ?_)
          refine sf_iadd (by omega) (fun v281 ev281 => ?_)
          refine sf_sldk (x := x4) (k := 3) (by omega) (by omega) (by omega) ?_
          clear ev281 ez280
          refine sf_aload rfl ?_
          refine sf_iload rfl ?_
          refine sf_iconst sf_c4 (fun z282 ez282 => ?_)
          refine sf_iadd (by omega) (fun v283 ev283 => ?_)
          refine sf_sldk (x := x4) (k := 4) (by omega) (by omega) (by omega) ?_
          clear ev283 ez282
          refine sf_callv5 rfl (by omega) (by omega) ?_
          refine sf_rv Iw195 rfl ?_
          refine sc_M_note Iw195  (fun v284 w285 Iw285 tw285 lv284 uv284 q286_0 q286_1 q286_2 q286_3 q286_4 => ?_)
          rw [c198] at q286_0
          rw [c199] at q286_0
          rw [c211] at q286_1
          rw [c199] at q286_1
          rw [c212] at q286_2
          rw [c199] at q286_2
          rw [c213] at q286_3
          rw [c199] at q286_3
          rw [c214] at q286_4
          rw [c199] at q286_4
          have c287 := sf_mf tw285 (p := 1) (j := 0) rfl
          have c288 := sf_mf tw285 (p := 71) (j := 1) rfl
          have c289 := sf_mf tw285 (p := 1) (j := 5) rfl
          have c290 := sf_mf tw285 (p := 13) (j := 1) rfl
          have c291 := sf_mf tw285 (p := 71) (j := 10) rfl
          have c292 := sf_mf tw285 (p := 21) (j := 1) rfl
          have c293 := sf_mf tw285 (p := 71) (j := 18) rfl
          have c294 := sf_mf tw285 (p := 35) (j := 0) rfl
          have c295 := sf_mf tw285 (p := 71) (j := 35) rfl
          have c296 := sf_ma tw285 (p := 3) rfl
          have c297 := sf_ma tw285 (p := 72) rfl
          have c298 := sf_mg tw285 (p := 10) rfl
          have c299 := sf_ma tw285 (p := 93) rfl
          have c300 := sf_mL tw285 (p := 130) rfl
          have c301 := sf_ma tw285 (p := 2) rfl
          have c302 := sf_ma tw285 (p := 6) rfl
          have c303 := sf_ma tw285 (p := 7) rfl
          have c304 := sf_ma tw285 (p := 8) rfl
          have c305 := sf_ma tw285 (p := 9) rfl
          have c306 := sf_ma tw285 (p := 14) rfl
          have c307 := sf_ma tw285 (p := 79) rfl
          have c308 := sf_ma tw285 (p := 15) rfl
          have c309 := sf_ma tw285 (p := 80) rfl
          have c310 := sf_ma tw285 (p := 16) rfl
          have c311 := sf_ma tw285 (p := 81) rfl
          have c312 := sf_ma tw285 (p := 17) rfl
          have c313 := sf_ma tw285 (p := 82) rfl
          have c314 := sf_ma tw285 (p := 18) rfl
          have c315 := sf_ma tw285 (p := 83) rfl
          have c316 := sf_ma tw285 (p := 19) rfl
          have c317 := sf_ma tw285 (p := 84) rfl
          have c318 := sf_ma tw285 (p := 20) rfl
          have c319 := sf_ma tw285 (p := 85) rfl
          have c320 := sf_ma tw285 (p := 24) rfl
          have c321 := sf_ma tw285 (p := 86) rfl
          have c322 := sf_ma tw285 (p := 25) rfl
          have c323 := sf_ma tw285 (p := 87) rfl
          have c324 := sf_ma tw285 (p := 23) rfl
          have c325 := sf_ma tw285 (p := 88) rfl
          have c326 := sf_ma tw285 (p := 26) rfl
          have c327 := sf_ma tw285 (p := 89) rfl
          have c328 := sf_ma tw285 (p := 27) rfl
          have c329 := sf_ma tw285 (p := 90) rfl
          have c330 := sf_ma tw285 (p := 36) rfl
          have c331 := sf_ma tw285 (p := 102) rfl
          have c332 := sf_ma tw285 (p := 37) rfl
          have c333 := sf_ma tw285 (p := 103) rfl
          have c334 := sf_mf tw285 (p := 60) (j := 0) rfl
          have c335 := sf_ma tw285 (p := 61) rfl
          have c336 := sf_ma tw285 (p := 62) rfl
          have c337 := sf_ma tw285 (p := 63) rfl
          have c338 := sf_ma tw285 (p := 65) rfl
          have c339 := sf_ma tw285 (p := 66) rfl
          have c340 := sf_mf tw285 (p := 71) (j := 56) rfl
          have c341 := sf_ma tw285 (p := 121) rfl
          have c342 := sf_ma tw285 (p := 122) rfl
          have c343 := sf_ma tw285 (p := 123) rfl
          have c344 := sf_ma tw285 (p := 125) rfl
          have c345 := sf_ma tw285 (p := 126) rfl
          have c346 := sf_ma tw285 (p := 38) rfl
          have c347 := sf_ma tw285 (p := 40) rfl
          have c348 := sf_ma tw285 (p := 41) rfl
          have c349 := sf_ma tw285 (p := 42) rfl
          have c350 := sf_ma tw285 (p := 43) rfl
          have c351 := sf_ma tw285 (p := 44) rfl
          have c352 := sf_ma tw285 (p := 47) rfl
          have c353 := sf_ma tw285 (p := 104) rfl
          have c354 := sf_ma tw285 (p := 106) rfl
          have c355 := sf_ma tw285 (p := 113) rfl
          have c356 := sf_ma tw285 (p := 107) rfl
          have c357 := sf_ma tw285 (p := 108) rfl
          have c358 := sf_ma tw285 (p := 110) rfl
          have c359 := sf_ma tw285 (p := 109) rfl
          have c360 := sf_mf tw285 (p := 71) (j := 41) rfl
          have c361 := sf_ma tw285 (p := 68) rfl
          have c362 := sf_ma tw285 (p := 69) rfl
          have c363 := sf_ma tw285 (p := 70) rfl
          have c364 := sf_ma tw285 (p := 127) rfl
          have c365 := sf_ma tw285 (p := 128) rfl
          have c366 := sf_ma tw285 (p := 129) rfl
          have U75 := q286_1
          have U76 := q286_2
          have U77 := q286_3
          have U78 := q286_4
          clear q286_1 q286_2 q286_3 q286_4
          have G1 := q286_0
          have hrc : v194.toInt = (sf_f w285 71 0).toInt := by omega
          have hcn : (v194.toInt = 0 ∧ (sf_f w285 71 5).toInt = (sf_f w 71 5).toInt + 1) ∨ (v194.toInt ≠ 0 ∧ (sf_f w285 71 5).toInt = (sf_f w 71 5).toInt) := by omega
          have hQ6 := sf_QH f_4 U6 U75 (by omega) hrc hcn
          have hQ7 := sf_QH f_5 U7 U76 (by omega) hrc hcn
          have hQ8 := sf_QH f_6 U8 U77 (by omega) hrc hcn
          have hQ9 := sf_QH f_7 U9 U78 (by omega) hrc hcn
          refine sf_istore (L' := [(5, .inl (.int v194)), (0, .inl (.ref 100000)), (1, .inl (.ref 0)), (2, .inl (.ref 71)), (3, .inl (.ref 130)), (4, .inl (.int x4))]) rfl ?_
          show kt_W_law_1421 N xs K _ _ _ _ _
          refine sf_iinc (L' := [(6, .inl (.int v284)), (5, .inl (.int v194)), (0, .inl (.ref 100000)), (1, .inl (.ref 0)), (2, .inl (.ref 71)), (3, .inl (.ref 130))]) (x := x4) sf_c8 rfl rfl (by omega) (fun v367 ev367 => ?_)
          refine sf_can (L' := [(0, .inl (.ref 100000)), (1, .inl (.ref 0)), (2, .inl (.ref 71)), (3, .inl (.ref 130)), (4, .inl (.int v367))]) rfl ?_
          exact ih _ _ _ _ Iw285 (by omega) (by omega) (by omega) (by omega) (by rw [c287, c197]; rw [c288, c198]; rw [c289]; rw [c290, c200]; rw [c291, c201]; rw [c292, c202]; rw [c293, c203]; rw [c294, c204]; rw [c295, c205]; omega) (by rw [c296, c206]; rw [c297, c207]; rw [c288, c198]; first | exact f_1 | exact hJ) (by rw [c298, c208]; rw [c299, c209]; first | exact f_2 | exact hK2) (by rw [c301, c210]; rw [c297, c207]; rw [c288, c198]; first | exact f_3 | exact hQ2) (by rw [c302]; first | exact f_4 | exact hQ6) (by rw [c303]; first | exact f_5 | exact hQ7) (by rw [c304]; first | exact f_6 | exact hQ8) (by rw [c305]; first | exact f_7 | exact hQ9) (by rw [c306, c215]; rw [c307, c216]; rw [c291, c201]; first | exact f_8 | exact hQ14) (by rw [c308, c217]; rw [c309, c218]; rw [c291, c201]; first | exact f_9 | exact hQ15) (by rw [c310, c219]; rw [c311, c220]; rw [c291, c201]; first | exact f_10 | exact hQ16) (by rw [c312, c221]; rw [c313, c222]; rw [c291, c201]; first | exact f_11 | exact hQ17) (by rw [c314, c223]; rw [c315, c224]; rw [c291, c201]; first | exact f_12 | exact hQ18) (by rw [c316, c225]; rw [c317, c226]; rw [c291, c201]; first | exact f_13 | exact hQ19) (by rw [c318, c227]; rw [c319, c228]; rw [c291, c201]; first | exact f_14 | exact hQ20) (by rw [c320, c229]; rw [c321, c230]; rw [c293, c203]; first | exact f_15 | exact hQ24) (by rw [c322, c231]; rw [c323, c232]; rw [c293, c203]; first | exact f_16 | exact hQ25) (by rw [c324, c233]; rw [c325, c234]; rw [c293, c203]; first | exact f_17 | exact hQ23) (by rw [c326, c235]; rw [c327, c236]; rw [c293, c203]; first | exact f_18 | exact hQ26) (by rw [c328, c237]; rw [c329, c238]; rw [c293, c203]; first | exact f_19 | exact hQ27) (by rw [c330, c239]; rw [c331, c240]; rw [c295, c205]; first | exact f_20 | exact hQ36) (by rw [c332, c241]; rw [c333, c242]; rw [c295, c205]; first | exact f_21 | exact hQ37) (by rw [c334, c243]; rw [c340, c249]; rw [c335, c244]; rw [c336, c245]; rw [c337, c246]; rw [c338, c247]; rw [c339, c248]; rw [c341, c250]; rw [c342, c251]; rw [c343, c252]; rw [c344, c253]; rw [c345, c254]; exact f_22) (by rw [c346, c255]; rw [c353, c262]; rw [c347, c256]; rw [c354, c263]; rw [c349, c258]; rw [c356, c265]; rw [c350, c259]; rw [c357, c266]; rw [c352, c261]; rw [c359, c268]; rw [c351, c260]; rw [c358, c267]; exact f_23) (by rw [c347, c256]; rw [c346, c255]; rw [c348, c257]; rw [c355, c264]; exact f_24) (by rw [c331, c240]; rw [c333, c242]; rw [c354, c263]; rw [c295, c205]; rw [c360, c269]; exact f_25) (by rw [c354, c263]; rw [c295, c205]; exact f_26) (by rw [c361, c270]; rw [c364, c273]; rw [c362, c271]; rw [c365, c274]; rw [c363, c272]; rw [c366, c275]; exact f_27) (by omega)
        · clear h185
          refine sf_sw1 sf_c2 (fun h368 => ?_) (fun h368 => ?_)
          · refine sf_aload rfl ?_
            refine sf_aload rfl ?_
            refine sf_iload rfl ?_
            refine sf_iconst sf_c1 (fun z369 ez369 => ?_)
            refine sf_iadd (by omega) (fun v370 ev370 => ?_)
            refine sf_sldk (x := x4) (k := 1) (by omega) (by omega) (by omega) ?_
            clear ev370 ez369
            refine sf_aload rfl ?_
            refine sf_iload rfl ?_
            refine sf_iconst sf_c2 (fun z371 ez371 => ?_)
            refine sf_iadd (by omega) (fun v372 ev372 => ?_)
            refine sf_sldk (x := x4) (k := 2) (by omega) (by omega) (by omega) ?_
            clear ev372 ez371
            refine sf_aload rfl ?_
            refine sf_iload rfl ?_
            refine sf_iconst sf_c3 (fun z373 ez373 => ?_)
            refine sf_iadd (by omega) (fun v374 ev374 => ?_)
            refine sf_sldk (x := x4) (k := 3) (by omega) (by omega) (by omega) ?_
            clear ev374 ez373
            refine sf_aload rfl ?_
            refine sf_callv5 rfl (by omega) (by omega) ?_
            refine sc_W_fact_0_130 I_w  (fun v375 w376 Iw376 tw376 lv375 uv375 q377_0 q377_1 => ?_)
            have c378 := sf_mf tw376 (p := 1) (j := 0) rfl
            have c379 := sf_mf tw376 (p := 71) (j := 1) rfl
            have c380 := sf_mf tw376 (p := 1) (j := 5) rfl
            have c381 := sf_mf tw376 (p := 71) (j := 5) rfl
            have c382 := sf_mf tw376 (p := 13) (j := 1) rfl
            have c383 := sf_mf tw376 (p := 71) (j := 10) rfl
            have c384 := sf_mf tw376 (p := 21) (j := 1) rfl
            have c385 := sf_mf tw376 (p := 71) (j := 18) rfl
            have c386 := sf_mf tw376 (p := 35) (j := 0) rfl
            have c387 := sf_mf tw376 (p := 71) (j := 35) rfl
            have c388 := sf_ma tw376 (p := 3) rfl
            have c389 := sf_ma tw376 (p := 72) rfl
            have c390 := sf_ma tw376 (p := 93) rfl
            have c391 := sf_ma tw376 (p := 2) rfl
            have c392 := sf_ma tw376 (p := 6) rfl
            have c393 := sf_ma tw376 (p := 75) rfl
            have c394 := sf_ma tw376 (p := 7) rfl
            have c395 := sf_ma tw376 (p := 76) rfl
            have c396 := sf_ma tw376 (p := 8) rfl
            have c397 := sf_ma tw376 (p := 77) rfl
            have c398 := sf_ma tw376 (p := 9) rfl
            have c399 := sf_ma tw376 (p := 78) rfl
            have c400 := sf_ma tw376 (p := 14) rfl
            have c401 := sf_ma tw376 (p := 79) rfl
            have c402 := sf_ma tw376 (p := 15) rfl
            have c403 := sf_ma tw376 (p := 80) rfl
            have c404 := sf_ma tw376 (p := 16) rfl
            have c405 := sf_ma tw376 (p := 81) rfl
            have c406 := sf_ma tw376 (p := 17) rfl
            have c407 := sf_ma tw376 (p := 82) rfl
            have c408 := sf_ma tw376 (p := 18) rfl
            have c409 := sf_ma tw376 (p := 83) rfl
            have c410 := sf_ma tw376 (p := 19) rfl
            have c411 := sf_ma tw376 (p := 84) rfl
            have c412 := sf_ma tw376 (p := 20) rfl
            have c413 := sf_ma tw376 (p := 85) rfl
            have c414 := sf_ma tw376 (p := 24) rfl
            have c415 := sf_ma tw376 (p := 86) rfl
            have c416 := sf_ma tw376 (p := 25) rfl
            have c417 := sf_ma tw376 (p := 87) rfl
            have c418 := sf_ma tw376 (p := 23) rfl
            have c419 := sf_ma tw376 (p := 88) rfl
            have c420 := sf_ma tw376 (p := 26) rfl
            have c421 := sf_ma tw376 (p := 89) rfl
            have c422 := sf_ma tw376 (p := 27) rfl
            have c423 := sf_ma tw376 (p := 90) rfl
            have c424 := sf_ma tw376 (p := 36) rfl
            have c425 := sf_ma tw376 (p := 102) rfl
            have c426 := sf_ma tw376 (p := 37) rfl
            have c427 := sf_ma tw376 (p := 103) rfl
            have c428 := sf_mf tw376 (p := 60) (j := 0) rfl
            have c429 := sf_ma tw376 (p := 61) rfl
            have c430 := sf_ma tw376 (p := 62) rfl
            have c431 := sf_ma tw376 (p := 63) rfl
            have c432 := sf_ma tw376 (p := 65) rfl
            have c433 := sf_ma tw376 (p := 66) rfl
            have c434 := sf_mf tw376 (p := 71) (j := 56) rfl
            have c435 := sf_ma tw376 (p := 121) rfl
            have c436 := sf_ma tw376 (p := 122) rfl
            have c437 := sf_ma tw376 (p := 123) rfl
            have c438 := sf_ma tw376 (p := 125) rfl
            have c439 := sf_ma tw376 (p := 126) rfl
            have c440 := sf_ma tw376 (p := 38) rfl
            have c441 := sf_ma tw376 (p := 40) rfl
            have c442 := sf_ma tw376 (p := 41) rfl
            have c443 := sf_ma tw376 (p := 42) rfl
            have c444 := sf_ma tw376 (p := 43) rfl
            have c445 := sf_ma tw376 (p := 44) rfl
            have c446 := sf_ma tw376 (p := 47) rfl
            have c447 := sf_ma tw376 (p := 104) rfl
            have c448 := sf_ma tw376 (p := 106) rfl
            have c449 := sf_ma tw376 (p := 113) rfl
            have c450 := sf_ma tw376 (p := 107) rfl
            have c451 := sf_ma tw376 (p := 108) rfl
            have c452 := sf_ma tw376 (p := 110) rfl
            have c453 := sf_ma tw376 (p := 109) rfl
            have c454 := sf_mf tw376 (p := 71) (j := 41) rfl
            have c455 := sf_ma tw376 (p := 68) rfl
            have c456 := sf_ma tw376 (p := 69) rfl
            have c457 := sf_ma tw376 (p := 70) rfl
            have c458 := sf_ma tw376 (p := 127) rfl
            have c459 := sf_ma tw376 (p := 128) rfl
            have c460 := sf_ma tw376 (p := 129) rfl
            have F1 := q377_0
            have F2 := q377_1
            clear q377_0 q377_1
            refine sf_istore (L' := [(0, .inl (.ref 100000)), (1, .inl (.ref 0)), (2, .inl (.ref 71)), (3, .inl (.ref 130)), (4, .inl (.int x4))]) rfl ?_
            refine sf_aload rfl ?_
            refine sf_aload rfl ?_
            refine sf_iload rfl ?_
            refine sf_iconst sf_c1 (fun z461 ez461 => ?_)
            refine sf_iadd (by omega) (fun v462 ev462 => ?_)
            refine sf_sldk (x := x4) (k := 1) (by omega) (by omega) (by omega) ?_
            clear ev462 ez461
            refine sf_aload rfl ?_
            refine sf_iload rfl ?_
            refine sf_iconst sf_c2 (fun z463 ez463 => ?_)
            refine sf_iadd (by omega) (fun v464 ev464 => ?_)
            refine sf_sldk (x := x4) (k := 2) (by omega) (by omega) (by omega) ?_
            clear ev464 ez463
            refine sf_aload rfl ?_
            refine sf_iload rfl ?_
            refine sf_iconst sf_c3 (fun z465 ez465 => ?_)
            refine sf_iadd (by omega) (fun v466 ev466 => ?_)
            refine sf_sldk (x := x4) (k := 3) (by omega) (by omega) (by omega) ?_
            clear ev466 ez465
            refine sf_callv4 rfl (by omega) (by omega) ?_
            refine sf_rv Iw376 rfl ?_
            refine sc_M_fact Iw376  (fun v467 w468 Iw468 tw468 lv467 uv467 q469_0 q469_1 => ?_)
            rw [c390] at q469_0
            rw [c390] at q469_1
            have c470 := sf_mf tw468 (p := 1) (j := 0) rfl
            have c471 := sf_mf tw468 (p := 71) (j := 1) rfl
            have c472 := sf_mf tw468 (p := 1) (j := 5) rfl
            have c473 := sf_mf tw468 (p := 71) (j := 5) rfl
            have c474 := sf_mf tw468 (p := 13) (j := 1) rfl
            have c475 := sf_mf tw468 (p := 71) (j := 10) rfl
            have c476 := sf_mf tw468 (p := 21) (j := 1) rfl
            have c477 := sf_mf tw468 (p := 71) (j := 18) rfl
            have c478 := sf_mf tw468 (p := 35) (j := 0) rfl
            have c479 := sf_mf tw468 (p := 71) (j := 35) rfl
            have c480 := sf_ma tw468 (p := 3) rfl
            have c481 := sf_ma tw468 (p := 72) rfl
            have c482 := sf_mg tw468 (p := 10) rfl
            have c483 := sf_mL tw468 (p := 130) rfl
            have c484 := sf_ma tw468 (p := 2) rfl
            have c485 := sf_ma tw468 (p := 6) rfl
            have c486 := sf_ma tw468 (p := 75) rfl
            have c487 := sf_ma tw468 (p := 7) rfl
            have c488 := sf_ma tw468 (p := 76) rfl
            have c489 := sf_ma tw468 (p := 8) rfl
            have c490 := sf_ma tw468 (p := 77) rfl
            have c491 := sf_ma tw468 (p := 9) rfl
            have c492 := sf_ma tw468 (p := 78) rfl
            have c493 := sf_ma tw468 (p := 14) rfl
            have c494 := sf_ma tw468 (p := 79) rfl
            have c495 := sf_ma tw468 (p := 15) rfl
            have c496 := sf_ma tw468 (p := 80) rfl
            have c497 := sf_ma tw468 (p := 16) rfl
            have c498 := sf_ma tw468 (p := 81) rfl
            have c499 := sf_ma tw468 (p := 17) rfl
            have c500 := sf_ma tw468 (p := 82) rfl
            have c501 := sf_ma tw468 (p := 18) rfl
            have c502 := sf_ma tw468 (p := 83) rfl
            have c503 := sf_ma tw468 (p := 19) rfl
            have c504 := sf_ma tw468 (p := 84) rfl
            have c505 := sf_ma tw468 (p := 20) rfl
            have c506 := sf_ma tw468 (p := 85) rfl
            have c507 := sf_ma tw468 (p := 24) rfl
            have c508 := sf_ma tw468 (p := 86) rfl
            have c509 := sf_ma tw468 (p := 25) rfl
            have c510 := sf_ma tw468 (p := 87) rfl
            have c511 := sf_ma tw468 (p := 23) rfl
            have c512 := sf_ma tw468 (p := 88) rfl
            have c513 := sf_ma tw468 (p := 26) rfl
            have c514 := sf_ma tw468 (p := 89) rfl
            have c515 := sf_ma tw468 (p := 27) rfl
            have c516 := sf_ma tw468 (p := 90) rfl
            have c517 := sf_ma tw468 (p := 36) rfl
            have c518 := sf_ma tw468 (p := 102) rfl
            have c519 := sf_ma tw468 (p := 37) rfl
            have c520 := sf_ma tw468 (p := 103) rfl
            have c521 := sf_mf tw468 (p := 60) (j := 0) rfl
            have c522 := sf_ma tw468 (p := 61) rfl
            have c523 := sf_ma tw468 (p := 62) rfl
            have c524 := sf_ma tw468 (p := 63) rfl
            have c525 := sf_ma tw468 (p := 65) rfl
            have c526 := sf_ma tw468 (p := 66) rfl
            have c527 := sf_mf tw468 (p := 71) (j := 56) rfl
            have c528 := sf_ma tw468 (p := 121) rfl
            have c529 := sf_ma tw468 (p := 122) rfl
            have c530 := sf_ma tw468 (p := 123) rfl
            have c531 := sf_ma tw468 (p := 125) rfl
            have c532 := sf_ma tw468 (p := 126) rfl
            have c533 := sf_ma tw468 (p := 38) rfl
            have c534 := sf_ma tw468 (p := 40) rfl
            have c535 := sf_ma tw468 (p := 41) rfl
            have c536 := sf_ma tw468 (p := 42) rfl
            have c537 := sf_ma tw468 (p := 43) rfl
            have c538 := sf_ma tw468 (p := 44) rfl
            have c539 := sf_ma tw468 (p := 47) rfl
            have c540 := sf_ma tw468 (p := 104) rfl
            have c541 := sf_ma tw468 (p := 106) rfl
            have c542 := sf_ma tw468 (p := 113) rfl
            have c543 := sf_ma tw468 (p := 107) rfl
            have c544 := sf_ma tw468 (p := 108) rfl
            have c545 := sf_ma tw468 (p := 110) rfl
            have c546 := sf_ma tw468 (p := 109) rfl
            have c547 := sf_mf tw468 (p := 71) (j := 41) rfl
            have c548 := sf_ma tw468 (p := 68) rfl
            have c549 := sf_ma tw468 (p := 69) rfl
            have c550 := sf_ma tw468 (p := 70) rfl
            have c551 := sf_ma tw468 (p := 127) rfl
            have c552 := sf_ma tw468 (p := 128) rfl
            have c553 := sf_ma tw468 (p := 129) rfl
            have G1 := q469_0
            have G2 := q469_1
            clear q469_0 q469_1
            have hK2 : sf_K (sf_g w376 10) (sf_a w468 93) := by
              rcases F2 with ⟨h1, h2⟩ | ⟨h1, h2, h3⟩ <;> rcases G2 with ⟨g1, g2⟩ | ⟨g1, g2, g3⟩
              · rw [h2, g2]; exact f_2
              · exfalso; omega
              · exfalso; omega
              · rw [h2, g2]; exact sf_KF f_2 (by omega) (by omega)
            have hKv : v375.toInt = 0 → (sf_g w 10 (xs (x4.toInt.toNat + 1)).toInt.toNat (xs (x4.toInt.toNat + 2)).toInt.toNat).toInt = (sf_a w 93 (8 * (xs (x4.toInt.toNat + 1)).toInt + (xs (x4.toInt.toNat + 2)).toInt).toNat).toInt := fun h1 => sf_Kv f_2 (by omega) (by omega)
            clear F2 G2
            refine sf_istore (L' := [(5, .inl (.int v375)), (0, .inl (.ref 100000)), (1, .inl (.ref 0)), (2, .inl (.ref 71)), (3, .inl (.ref 130)), (4, .inl (.int x4))]) rfl ?_
            show kt_W_law_1421 N xs K _ _ _ _ _
            refine sf_iinc (L' := [(6, .inl (.int v467)), (5, .inl (.int v375)), (0, .inl (.ref 100000)), (1, .inl (.ref 0)), (2, .inl (.ref 71)), (3, .inl (.ref 130))]) (x := x4) sf_c8 rfl rfl (by omega) (fun v554 ev554 => ?_)
            refine sf_can (L' := [(0, .inl (.ref 100000)), (1, .inl (.ref 0)), (2, .inl (.ref 71)), (3, .inl (.ref 130)), (4, .inl (.int v554))]) rfl ?_
            exact ih _ _ _ _ Iw468 (by omega) (by omega) (by omega) (by omega) (by rw [c470, c378]; rw [c471, c379]; rw [c472, c380]; rw [c473, c381]; rw [c474, c382]; rw [c475, c383]; rw [c476, c384]; rw [c477, c385]; rw [c478, c386]; rw [c479, c387]; omega) (by rw [c480, c388]; rw [c481, c389]; rw [c471, c379]; first | exact f_1 | exact hJ) (by rw [c482]; first | exact f_2 | exact hK2) (by rw [c484, c391]; rw [c481, c389]; rw [c471, c379]; first | exact f_3 | exact hQ2) (by rw [c485, c392]; rw [c486, c393]; rw [c473, c381]; first | exact f_4 | exact hQ6) (by rw [c487, c394]; rw [c488, c395]; rw [c473, c381]; first | exact f_5 | exact hQ7) (by rw [c489, c396]; rw [c490, c397]; rw [c473, c381]; first | exact f_6 | exact hQ8) (by rw [c491, c398]; rw [c492, c399]; rw [c473, c381]; first | exact f_7 | exact hQ9) (by rw [c493, c400]; rw [c494, c401]; rw [c475, c383]; first | exact f_8 | exact hQ14) (by rw [c495, c402]; rw [c496, c403]; rw [c475, c383]; first | exact f_9 | exact hQ15) (by rw [c497, c404]; rw [c498, c405]; rw [c475, c383]; first | exact f_10 | exact hQ16) (by rw [c499, c406]; rw [c500, c407]; rw [c475, c383]; first | exact f_11 | exact hQ17) (by rw [c501, c408]; rw [c502, c409]; rw [c475, c383]; first | exact f_12 | exact hQ18) (by rw [c503, c410]; rw [c504, c411]; rw [c475, c383]; first | exact f_13 | exact hQ19) (by rw [c505, c412]; rw [c506, c413]; rw [c475, c383]; first | exact f_14 | exact hQ20) (by rw [c507, c414]; rw [c508, c415]; rw [c477, c385]; first | exact f_15 | exact hQ24) (by rw [c509, c416]; rw [c510, c417]; rw [c477, c385]; first | exact f_16 | exact hQ25) (by rw [c511, c418]; rw [c512, c419]; rw [c477, c385]; first | exact f_17 | exact hQ23) (by rw [c513, c420]; rw [c514, c421]; rw [c477, c385]; first | exact f_18 | exact hQ26) (by rw [c515, c422]; rw [c516, c423]; rw [c477, c385]; first | exact f_19 | exact hQ27) (by rw [c517, c424]; rw [c518, c425]; rw [c479, c387]; first | exact f_20 | exact hQ36) (by rw [c519, c426]; rw [c520, c427]; rw [c479, c387]; first | exact f_21 | exact hQ37) (by rw [c521, c428]; rw [c527, c434]; rw [c522, c429]; rw [c523, c430]; rw [c524, c431]; rw [c525, c432]; rw [c526, c433]; rw [c528, c435]; rw [c529, c436]; rw [c530, c437]; rw [c531, c438]; rw [c532, c439]; exact f_22) (by rw [c533, c440]; rw [c540, c447]; rw [c534, c441]; rw [c541, c448]; rw [c536, c443]; rw [c543, c450]; rw [c537, c444]; rw [c544, c451]; rw [c539, c446]; rw [c546, c453]; rw [c538, c445]; rw [c545, c452]; exact f_23) (by rw [c534, c441]; rw [c533, c440]; rw [c535, c442]; rw [c542, c449]; exact f_24) (by rw [c518, c425]; rw [c520, c427]; rw [c541, c448]; rw [c479, c387]; rw [c547, c454]; exact f_25) (by rw [c541, c448]; rw [c479, c387]; exact f_26) (by rw [c548, c455]; rw [c551, c458]; rw [c549, c456]; rw [c552, c459]; rw [c550, c457]; rw [c553, c460]; exact f_27) (by omega)
          · clear h368
            refine sf_sw1 sf_c3 (fun h555 => ?_) (fun h555 => ?_)
            · refine sf_aload rfl ?_
              refine sf_aload rfl ?_
              refine sf_iload rfl ?_
              refine sf_iconst sf_c1 (fun z556 ez556 => ?_)
              refine sf_iadd (by omega) (fun v557 ev557 => ?_)
              refine sf_sldk (x := x4) (k := 1) (by omega) (by omega) (by omega) ?_
              clear ev557 ez556
              refine sf_aload rfl ?_
              refine sf_callv3 rfl (by omega) (by omega) ?_
              refine sc_W_classify_0_130 I_w (by exact sf_JQ f_1 f_3 (by omega)) (fun v558 w559 Iw559 tw559 lv558 uv558 q560_0 => ?_)
              have c561 := sf_mf tw559 (p := 1) (j := 0) rfl
              have c562 := sf_mf tw559 (p := 71) (j := 1) rfl
              have c563 := sf_mf tw559 (p := 1) (j := 5) rfl
              have c564 := sf_mf tw559 (p := 71) (j := 5) rfl
              have c565 := sf_mf tw559 (p := 13) (j := 1) rfl
              have c566 := sf_mf tw559 (p := 71) (j := 10) rfl
              have c567 := sf_mf tw559 (p := 21) (j := 1) rfl
              have c568 := sf_mf tw559 (p := 71) (j := 18) rfl
              have c569 := sf_mf tw559 (p := 35) (j := 0) rfl
              have c570 := sf_mf tw559 (p := 71) (j := 35) rfl
              have c571 := sf_ma tw559 (p := 3) rfl
              have c572 := sf_ma tw559 (p := 72) rfl
              have c573 := sf_mg tw559 (p := 10) rfl
              have c574 := sf_ma tw559 (p := 93) rfl
              have c575 := sf_ma tw559 (p := 2) rfl
              have c576 := sf_ma tw559 (p := 6) rfl
              have c577 := sf_ma tw559 (p := 75) rfl
              have c578 := sf_ma tw559 (p := 7) rfl
              have c579 := sf_ma tw559 (p := 76) rfl
              have c580 := sf_ma tw559 (p := 8) rfl
              have c581 := sf_ma tw559 (p := 77) rfl
              have c582 := sf_ma tw559 (p := 9) rfl
              have c583 := sf_ma tw559 (p := 78) rfl
              have c584 := sf_ma tw559 (p := 14) rfl
              have c585 := sf_ma tw559 (p := 79) rfl
              have c586 := sf_ma tw559 (p := 15) rfl
              have c587 := sf_ma tw559 (p := 80) rfl
              have c588 := sf_ma tw559 (p := 16) rfl
              have c589 := sf_ma tw559 (p := 81) rfl
              have c590 := sf_ma tw559 (p := 17) rfl
              have c591 := sf_ma tw559 (p := 82) rfl
              have c592 := sf_ma tw559 (p := 18) rfl
              have c593 := sf_ma tw559 (p := 83) rfl
              have c594 := sf_ma tw559 (p := 19) rfl
              have c595 := sf_ma tw559 (p := 84) rfl
              have c596 := sf_ma tw559 (p := 20) rfl
              have c597 := sf_ma tw559 (p := 85) rfl
              have c598 := sf_ma tw559 (p := 24) rfl
              have c599 := sf_ma tw559 (p := 86) rfl
              have c600 := sf_ma tw559 (p := 25) rfl
              have c601 := sf_ma tw559 (p := 87) rfl
              have c602 := sf_ma tw559 (p := 23) rfl
              have c603 := sf_ma tw559 (p := 88) rfl
              have c604 := sf_ma tw559 (p := 26) rfl
              have c605 := sf_ma tw559 (p := 89) rfl
              have c606 := sf_ma tw559 (p := 27) rfl
              have c607 := sf_ma tw559 (p := 90) rfl
              have c608 := sf_ma tw559 (p := 36) rfl
              have c609 := sf_ma tw559 (p := 102) rfl
              have c610 := sf_ma tw559 (p := 37) rfl
              have c611 := sf_ma tw559 (p := 103) rfl
              have c612 := sf_mf tw559 (p := 60) (j := 0) rfl
              have c613 := sf_ma tw559 (p := 61) rfl
              have c614 := sf_ma tw559 (p := 62) rfl
              have c615 := sf_ma tw559 (p := 63) rfl
              have c616 := sf_ma tw559 (p := 65) rfl
              have c617 := sf_ma tw559 (p := 66) rfl
              have c618 := sf_mf tw559 (p := 71) (j := 56) rfl
              have c619 := sf_ma tw559 (p := 121) rfl
              have c620 := sf_ma tw559 (p := 122) rfl
              have c621 := sf_ma tw559 (p := 123) rfl
              have c622 := sf_ma tw559 (p := 125) rfl
              have c623 := sf_ma tw559 (p := 126) rfl
              have c624 := sf_ma tw559 (p := 38) rfl
              have c625 := sf_ma tw559 (p := 40) rfl
              have c626 := sf_ma tw559 (p := 41) rfl
              have c627 := sf_ma tw559 (p := 42) rfl
              have c628 := sf_ma tw559 (p := 43) rfl
              have c629 := sf_ma tw559 (p := 44) rfl
              have c630 := sf_ma tw559 (p := 47) rfl
              have c631 := sf_ma tw559 (p := 104) rfl
              have c632 := sf_ma tw559 (p := 106) rfl
              have c633 := sf_ma tw559 (p := 113) rfl
              have c634 := sf_ma tw559 (p := 107) rfl
              have c635 := sf_ma tw559 (p := 108) rfl
              have c636 := sf_ma tw559 (p := 110) rfl
              have c637 := sf_ma tw559 (p := 109) rfl
              have c638 := sf_mf tw559 (p := 71) (j := 41) rfl
              have c639 := sf_ma tw559 (p := 68) rfl
              have c640 := sf_ma tw559 (p := 69) rfl
              have c641 := sf_ma tw559 (p := 70) rfl
              have c642 := sf_ma tw559 (p := 127) rfl
              have c643 := sf_ma tw559 (p := 128) rfl
              have c644 := sf_ma tw559 (p := 129) rfl
              have F1 := q560_0
              refine sf_istore (L' := [(0, .inl (.ref 100000)), (1, .inl (.ref 0)), (2, .inl (.ref 71)), (3, .inl (.ref 130)), (4, .inl (.int x4))]) rfl ?_
              refine sf_aload rfl ?_
              refine sf_aload rfl ?_
              refine sf_iload rfl ?_
              refine sf_iconst sf_c1 (fun z645 ez645 => ?_)
              refine sf_iadd (by omega) (fun v646 ev646 => ?_)
              refine sf_sldk (x := x4) (k := 1) (by omega) (by omega) (by omega) ?_
              clear ev646 ez645
              refine sf_callv2 rfl (by omega) (by omega) ?_
              refine sf_rv Iw559 rfl ?_
              refine sc_M_classify Iw559 (by rw [c571]; rw [c572]; rw [c562]; exact f_1) (fun v647 w648 Iw648 tw648 lv647 uv647 q649_0 => ?_)
              rw [c571] at q649_0
              rw [c572] at q649_0
              rw [c577] at q649_0
              rw [c579] at q649_0
              rw [c581] at q649_0
              rw [c583] at q649_0
              rw [c574] at q649_0
              rw [c562] at q649_0
              rw [c564] at q649_0
              have c650 := sf_mf tw648 (p := 1) (j := 0) rfl
              have c651 := sf_mf tw648 (p := 71) (j := 1) rfl
              have c652 := sf_mf tw648 (p := 1) (j := 5) rfl
              have c653 := sf_mf tw648 (p := 71) (j := 5) rfl
              have c654 := sf_mf tw648 (p := 13) (j := 1) rfl
              have c655 := sf_mf tw648 (p := 71) (j := 10) rfl
              have c656 := sf_mf tw648 (p := 21) (j := 1) rfl
              have c657 := sf_mf tw648 (p := 71) (j := 18) rfl
              have c658 := sf_mf tw648 (p := 35) (j := 0) rfl
              have c659 := sf_mf tw648 (p := 71) (j := 35) rfl
              have c660 := sf_ma tw648 (p := 3) rfl
              have c661 := sf_ma tw648 (p := 72) rfl
              have c662 := sf_mg tw648 (p := 10) rfl
              have c663 := sf_ma tw648 (p := 93) rfl
              have c664 := sf_mL tw648 (p := 130) rfl
              have c665 := sf_ma tw648 (p := 2) rfl
              have c666 := sf_ma tw648 (p := 6) rfl
              have c667 := sf_ma tw648 (p := 75) rfl
              have c668 := sf_ma tw648 (p := 7) rfl
              have c669 := sf_ma tw648 (p := 76) rfl
              have c670 := sf_ma tw648 (p := 8) rfl
              have c671 := sf_ma tw648 (p := 77) rfl
              have c672 := sf_ma tw648 (p := 9) rfl
              have c673 := sf_ma tw648 (p := 78) rfl
              have c674 := sf_ma tw648 (p := 14) rfl
              have c675 := sf_ma tw648 (p := 79) rfl
              have c676 := sf_ma tw648 (p := 15) rfl
              have c677 := sf_ma tw648 (p := 80) rfl
              have c678 := sf_ma tw648 (p := 16) rfl
              have c679 := sf_ma tw648 (p := 81) rfl
              have c680 := sf_ma tw648 (p := 17) rfl
              have c681 := sf_ma tw648 (p := 82) rfl
              have c682 := sf_ma tw648 (p := 18) rfl
              have c683 := sf_ma tw648 (p := 83) rfl
              have c684 := sf_ma tw648 (p := 19) rfl
              have c685 := sf_ma tw648 (p := 84) rfl
              have c686 := sf_ma tw648 (p := 20) rfl
              have c687 := sf_ma tw648 (p := 85) rfl
              have c688 := sf_ma tw648 (p := 24) rfl
              have c689 := sf_ma tw648 (p := 86) rfl
              have c690 := sf_ma tw648 (p := 25) rfl
              have c691 := sf_ma tw648 (p := 87) rfl
              have c692 := sf_ma tw648 (p := 23) rfl
              have c693 := sf_ma tw648 (p := 88) rfl
              have c694 := sf_ma tw648 (p := 26) rfl
              have c695 := sf_ma tw648 (p := 89) rfl
              have c696 := sf_ma tw648 (p := 27) rfl
              have c697 := sf_ma tw648 (p := 90) rfl
              have c698 := sf_ma tw648 (p := 36) rfl
              have c699 := sf_ma tw648 (p := 102) rfl
              have c700 := sf_ma tw648 (p := 37) rfl
              have c701 := sf_ma tw648 (p := 103) rfl
              have c702 := sf_mf tw648 (p := 60) (j := 0) rfl
              have c703 := sf_ma tw648 (p := 61) rfl
              have c704 := sf_ma tw648 (p := 62) rfl
              have c705 := sf_ma tw648 (p := 63) rfl
              have c706 := sf_ma tw648 (p := 65) rfl
              have c707 := sf_ma tw648 (p := 66) rfl
              have c708 := sf_mf tw648 (p := 71) (j := 56) rfl
              have c709 := sf_ma tw648 (p := 121) rfl
              have c710 := sf_ma tw648 (p := 122) rfl
              have c711 := sf_ma tw648 (p := 123) rfl
              have c712 := sf_ma tw648 (p := 125) rfl
              have c713 := sf_ma tw648 (p := 126) rfl
              have c714 := sf_ma tw648 (p := 38) rfl
              have c715 := sf_ma tw648 (p := 40) rfl
              have c716 := sf_ma tw648 (p := 41) rfl
              have c717 := sf_ma tw648 (p := 42) rfl
              have c718 := sf_ma tw648 (p := 43) rfl
              have c719 := sf_ma tw648 (p := 44) rfl
              have c720 := sf_ma tw648 (p := 47) rfl
              have c721 := sf_ma tw648 (p := 104) rfl
              have c722 := sf_ma tw648 (p := 106) rfl
              have c723 := sf_ma tw648 (p := 113) rfl
              have c724 := sf_ma tw648 (p := 107) rfl
              have c725 := sf_ma tw648 (p := 108) rfl
              have c726 := sf_ma tw648 (p := 110) rfl
              have c727 := sf_ma tw648 (p := 109) rfl
              have c728 := sf_mf tw648 (p := 71) (j := 41) rfl
              have c729 := sf_ma tw648 (p := 68) rfl
              have c730 := sf_ma tw648 (p := 69) rfl
              have c731 := sf_ma tw648 (p := 70) rfl
              have c732 := sf_ma tw648 (p := 127) rfl
              have c733 := sf_ma tw648 (p := 128) rfl
              have c734 := sf_ma tw648 (p := 129) rfl
              have G1 := q649_0
              have b40 := (sf_fb I_w (p := 71) (ci := 9) (j := 5) rfl rfl).2
              have hE : 0 ≤ (xs (x4.toInt.toNat + 1)).toInt → (xs (x4.toInt.toNat + 1)).toInt ≤ 15 → sj_B (sp_fi (sf_a w 2) (sf_a w 6) (sf_a w 7) (sf_a w 8) (sf_a w 9) (sp_ag (sf_g w 10) (xs (x4.toInt.toNat + 1)).toInt.toNat) (sf_f w 1 5).toInt.toNat) (sp_d (sf_a w 3)) (sp_sh (sf_a w 2) (sf_a w 6) (sf_a w 7) (sf_a w 8) (sp_ag (sf_g w 10) (xs (x4.toInt.toNat + 1)).toInt.toNat) (sf_f w 1 5).toInt.toNat) (sf_f w 1 0).toInt.toNat = sj_B (sp_fi (sf_a w 72) (sf_a w 75) (sf_a w 76) (sf_a w 77) (sf_a w 78) (sp_aa (sf_a w 93) (xs (x4.toInt.toNat + 1)).toInt.toNat) (sf_f w 71 5).toInt.toNat) (sp_d (sf_a w 3)) (sp_sh (sf_a w 72) (sf_a w 75) (sf_a w 76) (sf_a w 77) (sp_aa (sf_a w 93) (xs (x4.toInt.toNat + 1)).toInt.toNat) (sf_f w 71 5).toInt.toNat) (sf_f w 71 1).toInt.toNat := fun h1 h2 => sp_BE f_1 f_3 f_4 f_5 f_6 f_7 (fun i hi => (sf_arr I_w (p := 77) rfl).2.1 i (by omega)) (fun j hj => congrArg Int32.toInt (f_2 _ j (by omega) hj)) (by omega) (by omega)
              refine sf_istore (L' := [(5, .inl (.int v558)), (0, .inl (.ref 100000)), (1, .inl (.ref 0)), (2, .inl (.ref 71)), (3, .inl (.ref 130)), (4, .inl (.int x4))]) rfl ?_
              show kt_W_law_1421 N xs K _ _ _ _ _
              refine sf_iinc (L' := [(6, .inl (.int v647)), (5, .inl (.int v558)), (0, .inl (.ref 100000)), (1, .inl (.ref 0)), (2, .inl (.ref 71)), (3, .inl (.ref 130))]) (x := x4) sf_c8 rfl rfl (by omega) (fun v735 ev735 => ?_)
              refine sf_can (L' := [(0, .inl (.ref 100000)), (1, .inl (.ref 0)), (2, .inl (.ref 71)), (3, .inl (.ref 130)), (4, .inl (.int v735))]) rfl ?_
              exact ih _ _ _ _ Iw648 (by omega) (by omega) (by omega) (by omega) (by rw [c650, c561]; rw [c651, c562]; rw [c652, c563]; rw [c653, c564]; rw [c654, c565]; rw [c655, c566]; rw [c656, c567]; rw [c657, c568]; rw [c658, c569]; rw [c659, c570]; omega) (by rw [c660, c571]; rw [c661, c572]; rw [c651, c562]; first | exact f_1 | exact hJ) (by rw [c662, c573]; rw [c663, c574]; first | exact f_2 | exact hK2) (by rw [c665, c575]; rw [c661, c572]; rw [c651, c562]; first | exact f_3 | exact hQ2) (by rw [c666, c576]; rw [c667, c577]; rw [c653, c564]; first | exact f_4 | exact hQ6) (by rw [c668, c578]; rw [c669, c579]; rw [c653, c564]; first | exact f_5 | exact hQ7) (by rw [c670, c580]; rw [c671, c581]; rw [c653, c564]; first | exact f_6 | exact hQ8) (by rw [c672, c582]; rw [c673, c583]; rw [c653, c564]; first | exact f_7 | exact hQ9) (by rw [c674, c584]; rw [c675, c585]; rw [c655, c566]; first | exact f_8 | exact hQ14) (by rw [c676, c586]; rw [c677, c587]; rw [c655, c566]; first | exact f_9 | exact hQ15) (by rw [c678, c588]; rw [c679, c589]; rw [c655, c566]; first | exact f_10 | exact hQ16) (by rw [c680, c590]; rw [c681, c591]; rw [c655, c566]; first | exact f_11 | exact hQ17) (by rw [c682, c592]; rw [c683, c593]; rw [c655, c566]; first | exact f_12 | exact hQ18) (by rw [c684, c594]; rw [c685, c595]; rw [c655, c566]; first | exact f_13 | exact hQ19) (by rw [c686, c596]; rw [c687, c597]; rw [c655, c566]; first | exact f_14 | exact hQ20) (by rw [c688, c598]; rw [c689, c599]; rw [c657, c568]; first | exact f_15 | exact hQ24) (by rw [c690, c600]; rw [c691, c601]; rw [c657, c568]; first | exact f_16 | exact hQ25) (by rw [c692, c602]; rw [c693, c603]; rw [c657, c568]; first | exact f_17 | exact hQ23) (by rw [c694, c604]; rw [c695, c605]; rw [c657, c568]; first | exact f_18 | exact hQ26) (by rw [c696, c606]; rw [c697, c607]; rw [c657, c568]; first | exact f_19 | exact hQ27) (by rw [c698, c608]; rw [c699, c609]; rw [c659, c570]; first | exact f_20 | exact hQ36) (by rw [c700, c610]; rw [c701, c611]; rw [c659, c570]; first | exact f_21 | exact hQ37) (by rw [c702, c612]; rw [c708, c618]; rw [c703, c613]; rw [c704, c614]; rw [c705, c615]; rw [c706, c616]; rw [c707, c617]; rw [c709, c619]; rw [c710, c620]; rw [c711, c621]; rw [c712, c622]; rw [c713, c623]; exact f_22) (by rw [c714, c624]; rw [c721, c631]; rw [c715, c625]; rw [c722, c632]; rw [c717, c627]; rw [c724, c634]; rw [c718, c628]; rw [c725, c635]; rw [c720, c630]; rw [c727, c637]; rw [c719, c629]; rw [c726, c636]; exact f_23) (by rw [c715, c625]; rw [c714, c624]; rw [c716, c626]; rw [c723, c633]; exact f_24) (by rw [c699, c609]; rw [c701, c611]; rw [c722, c632]; rw [c659, c570]; rw [c728, c638]; exact f_25) (by rw [c722, c632]; rw [c659, c570]; exact f_26) (by rw [c729, c639]; rw [c732, c642]; rw [c730, c640]; rw [c733, c643]; rw [c731, c641]; rw [c734, c644]; exact f_27) (by omega)
            · clear h555
              refine sf_sw1 sf_c4 (fun h736 => ?_) (fun h736 => ?_)
              · refine sf_aload rfl ?_
                refine sf_aload rfl ?_
                refine sf_iload rfl ?_
                refine sf_iconst sf_c1 (fun z737 ez737 => ?_)
                refine sf_iadd (by omega) (fun v738 ev738 => ?_)
                refine sf_sldk (x := x4) (k := 1) (by omega) (by omega) (by omega) ?_
                clear ev738 ez737
                refine sf_aload rfl ?_
                refine sf_iload rfl ?_
                refine sf_iconst sf_c2 (fun z739 ez739 => ?_)
                refine sf_iadd (by omega) (fun v740 ev740 => ?_)
                refine sf_sldk (x := x4) (k := 2) (by omega) (by omega) (by omega) ?_
                clear ev740 ez739
                refine sf_aload rfl ?_
                refine sf_iload rfl ?_
                refine sf_iconst sf_c3 (fun z741 ez741 => ?_)
                refine sf_iadd (by omega) (fun v742 ev742 => ?_)
                refine sf_sldk (x := x4) (k := 3) (by omega) (by omega) (by omega) ?_
                clear ev742 ez741
                refine sf_aload rfl ?_
                refine sf_iload rfl ?_
                refine sf_iconst sf_c4 (fun z743 ez743 => ?_)
                refine sf_iadd (by omega) (fun v744 ev744 => ?_)
                refine sf_sldk (x := x4) (k := 4) (by omega) (by omega) (by omega) ?_
                clear ev744 ez743
                refine sf_aload rfl ?_
                refine sf_iload rfl ?_
                refine sf_iconst sf_c5 (fun z745 ez745 => ?_)
                refine sf_iadd (by omega) (fun v746 ev746 => ?_)
                refine sf_sldk (x := x4) (k := 5) (by omega) (by omega) (by omega) ?_
                clear ev746 ez745
                refine sf_aload rfl ?_
                refine sf_iload rfl ?_
                refine sf_iconst sf_c6 (fun z747 ez747 => ?_)
                refine sf_iadd (by omega) (fun v748 ev748 => ?_)
                refine sf_sldk (x := x4) (k := 6) (by omega) (by omega) (by omega) ?_
                clear ev748 ez747
                refine sf_aload rfl ?_
                refine sf_iload rfl ?_
                refine sf_iconst sf_c7 (fun z749 ez749 => ?_)
                refine sf_iadd (by omega) (fun v750 ev750 => ?_)
                refine sf_sldk (x := x4) (k := 7) (by omega) (by omega) (by omega) ?_
                clear ev750 ez749
                refine sf_aload rfl ?_
                refine sf_callv9 rfl (by omega) (by omega) ?_
                refine sc_W_rate_0_130 I_w  (fun v751 w752 Iw752 tw752 lv751 uv751 q753_0 q753_1 q753_2 q753_3 q753_4 q753_5 q753_6 q753_7 => ?_)
                have c754 := sf_mf tw752 (p := 1) (j := 0) rfl
                have c755 := sf_mf tw752 (p := 71) (j := 1) rfl
                have c756 := sf_mf tw752 (p := 1) (j := 5) rfl
                have c757 := sf_mf tw752 (p := 71) (j := 5) rfl
                have c758 := sf_mf tw752 (p := 71) (j := 10) rfl
                have c759 := sf_mf tw752 (p := 21) (j := 1) rfl
                have c760 := sf_mf tw752 (p := 71) (j := 18) rfl
                have c761 := sf_mf tw752 (p := 35) (j := 0) rfl
                have c762 := sf_mf tw752 (p := 71) (j := 35) rfl
                have c763 := sf_ma tw752 (p := 3) rfl
                have c764 := sf_ma tw752 (p := 72) rfl
                have c765 := sf_mg tw752 (p := 10) rfl
                have c766 := sf_ma tw752 (p := 93) rfl
                have c767 := sf_ma tw752 (p := 2) rfl
                have c768 := sf_ma tw752 (p := 6) rfl
                have c769 := sf_ma tw752 (p := 75) rfl
                have c770 := sf_ma tw752 (p := 7) rfl
                have c771 := sf_ma tw752 (p := 76) rfl
                have c772 := sf_ma tw752 (p := 8) rfl
                have c773 := sf_ma tw752 (p := 77) rfl
                have c774 := sf_ma tw752 (p := 9) rfl
                have c775 := sf_ma tw752 (p := 78) rfl
                have c776 := sf_ma tw752 (p := 79) rfl
                have c777 := sf_ma tw752 (p := 80) rfl
                have c778 := sf_ma tw752 (p := 81) rfl
                have c779 := sf_ma tw752 (p := 82) rfl
                have c780 := sf_ma tw752 (p := 83) rfl
                have c781 := sf_ma tw752 (p := 84) rfl
                have c782 := sf_ma tw752 (p := 85) rfl
                have c783 := sf_ma tw752 (p := 24) rfl
                have c784 := sf_ma tw752 (p := 86) rfl
                have c785 := sf_ma tw752 (p := 25) rfl
                have c786 := sf_ma tw752 (p := 87) rfl
                have c787 := sf_ma tw752 (p := 23) rfl
                have c788 := sf_ma tw752 (p := 88) rfl
                have c789 := sf_ma tw752 (p := 26) rfl
                have c790 := sf_ma tw752 (p := 89) rfl
                have c791 := sf_ma tw752 (p := 27) rfl
                have c792 := sf_ma tw752 (p := 90) rfl
                have c793 := sf_ma tw752 (p := 36) rfl
                have c794 := sf_ma tw752 (p := 102) rfl
                have c795 := sf_ma tw752 (p := 37) rfl
                have c796 := sf_ma tw752 (p := 103) rfl
                have c797 := sf_mf tw752 (p := 60) (j := 0) rfl
                have c798 := sf_ma tw752 (p := 61) rfl
                have c799 := sf_ma tw752 (p := 62) rfl
                have c800 := sf_ma tw752 (p := 63) rfl
                have c801 := sf_ma tw752 (p := 65) rfl
                have c802 := sf_ma tw752 (p := 66) rfl
                have c803 := sf_mf tw752 (p := 71) (j := 56) rfl
                have c804 := sf_ma tw752 (p := 121) rfl
                have c805 := sf_ma tw752 (p := 122) rfl
                have c806 := sf_ma tw752 (p := 123) rfl
                have c807 := sf_ma tw752 (p := 125) rfl
                have c808 := sf_ma tw752 (p := 126) rfl
                have c809 := sf_ma tw752 (p := 38) rfl
                have c810 := sf_ma tw752 (p := 40) rfl
                have c811 := sf_ma tw752 (p := 41) rfl
                have c812 := sf_ma tw752 (p := 42) rfl
                have c813 := sf_ma tw752 (p := 43) rfl
                have c814 := sf_ma tw752 (p := 44) rfl
                have c815 := sf_ma tw752 (p := 47) rfl
                have c816 := sf_ma tw752 (p := 104) rfl
                have c817 := sf_ma tw752 (p := 106) rfl
                have c818 := sf_ma tw752 (p := 113) rfl
                have c819 := sf_ma tw752 (p := 107) rfl
                have c820 := sf_ma tw752 (p := 108) rfl
                have c821 := sf_ma tw752 (p := 110) rfl
                have c822 := sf_ma tw752 (p := 109) rfl
                have c823 := sf_mf tw752 (p := 71) (j := 41) rfl
                have c824 := sf_ma tw752 (p := 68) rfl
                have c825 := sf_ma tw752 (p := 69) rfl
                have c826 := sf_ma tw752 (p := 70) rfl
                have c827 := sf_ma tw752 (p := 127) rfl
                have c828 := sf_ma tw752 (p := 128) rfl
                have c829 := sf_ma tw752 (p := 129) rfl
                have U14 := q753_1
                have U15 := q753_2
                have U16 := q753_3
                have U17 := q753_4
                have U18 := q753_5
                have U19 := q753_6
                have U20 := q753_7
                clear q753_1 q753_2 q753_3 q753_4 q753_5 q753_6 q753_7
                have F1 := q753_0
                refine sf_istore (L' := [(0, .inl (.ref 100000)), (1, .inl (.ref 0)), (2, .inl (.ref 71)), (3, .inl (.ref 130)), (4, .inl (.int x4))]) rfl ?_
                refine sf_aload rfl ?_
                refine sf_aload rfl ?_
                refine sf_iload rfl ?_
                refine sf_iconst sf_c1 (fun z830 ez830 => ?_)
                refine sf_iadd (by omega) (fun v831 ev831 => ?_)
                refine sf_sldk (x := x4) (k := 1) (by omega) (by omega) (by omega) ?_
                clear ev831 ez830
                refine sf_aload rfl ?_
                refine sf_iload rfl ?_
                refine sf_iconst sf_c2 (fun z832 ez832 => ?_)
                refine sf_iadd (by omega) (fun v833 ev833 => ?_)
                refine sf_sldk (x := x4) (k := 2) (by omega) (by omega) (by omega) ?_
                clear ev833 ez832
                refine sf_aload rfl ?_
                refine sf_iload rfl ?_
                refine sf_iconst sf_c3 (fun z834 ez834 => ?_)
                refine sf_iadd (by omega) (fun v835 ev835 => ?_)
                refine sf_sldk (x := x4) (k := 3) (by omega) (by omega) (by omega) ?_
                clear ev835 ez834
                refine sf_aload rfl ?_
                refine sf_iload rfl ?_
                refine sf_iconst sf_c4 (fun z836 ez836 => ?_)
                refine sf_iadd (by omega) (fun v837 ev837 => ?_)
                refine sf_sldk (x := x4) (k := 4) (by omega) (by omega) (by omega) ?_
                clear ev837 ez836
                refine sf_aload rfl ?_
                refine sf_iload rfl ?_
                refine sf_iconst sf_c5 (fun z838 ez838 => ?_)
                refine sf_iadd (by omega) (fun v839 ev839 => ?_)
                refine sf_sldk (x := x4) (k := 5) (by omega) (by omega) (by omega) ?_
                clear ev839 ez838
                refine sf_aload rfl ?_
                refine sf_iload rfl ?_
                refine sf_iconst sf_c6 (fun z840 ez840 => ?_)
                refine sf_iadd (by omega) (fun v841 ev841 => ?_)
                refine sf_sldk (x := x4) (k := 6) (by omega) (by omega) (by omega) ?_
                clear ev841 ez840
                refine sf_aload rfl ?_
                refine sf_iload rfl ?_
                refine sf_iconst sf_c7 (fun z842 ez842 => ?_)
                refine sf_iadd (by omega) (fun v843 ev843 => ?_)
                refine sf_sldk (x := x4) (k := 7) (by omega) (by omega) (by omega) ?_
                clear ev843 ez842
                refine sf_callv8 rfl (by omega) (by omega) ?_
                refine sf_rv Iw752 rfl ?_
                refine sc_M_rate Iw752  (fun v844 w845 Iw845 tw845 lv844 uv844 q846_0 q846_1 q846_2 q846_3 q846_4 q846_5 q846_6 q846_7 => ?_)
                rw [c755] at q846_0
                rw [c758] at q846_0
                rw [c776] at q846_1
                rw [c758] at q846_1
                rw [c777] at q846_2
                rw [c758] at q846_2
                rw [c778] at q846_3
                rw [c758] at q846_3
                rw [c779] at q846_4
                rw [c758] at q846_4
                rw [c780] at q846_5
                rw [c758] at q846_5
                rw [c781] at q846_6
                rw [c758] at q846_6
                rw [c782] at q846_7
                rw [c758] at q846_7
                have c847 := sf_mf tw845 (p := 1) (j := 0) rfl
                have c848 := sf_mf tw845 (p := 71) (j := 1) rfl
                have c849 := sf_mf tw845 (p := 1) (j := 5) rfl
                have c850 := sf_mf tw845 (p := 71) (j := 5) rfl
                have c851 := sf_mf tw845 (p := 13) (j := 1) rfl
                have c852 := sf_mf tw845 (p := 21) (j := 1) rfl
                have c853 := sf_mf tw845 (p := 71) (j := 18) rfl
                have c854 := sf_mf tw845 (p := 35) (j := 0) rfl
                have c855 := sf_mf tw845 (p := 71) (j := 35) rfl
                have c856 := sf_ma tw845 (p := 3) rfl
                have c857 := sf_ma tw845 (p := 72) rfl
                have c858 := sf_mg tw845 (p := 10) rfl
                have c859 := sf_ma tw845 (p := 93) rfl
                have c860 := sf_mL tw845 (p := 130) rfl
                have c861 := sf_ma tw845 (p := 2) rfl
                have c862 := sf_ma tw845 (p := 6) rfl
                have c863 := sf_ma tw845 (p := 75) rfl
                have c864 := sf_ma tw845 (p := 7) rfl
                have c865 := sf_ma tw845 (p := 76) rfl
                have c866 := sf_ma tw845 (p := 8) rfl
                have c867 := sf_ma tw845 (p := 77) rfl
                have c868 := sf_ma tw845 (p := 9) rfl
                have c869 := sf_ma tw845 (p := 78) rfl
                have c870 := sf_ma tw845 (p := 14) rfl
                have c871 := sf_ma tw845 (p := 15) rfl
                have c872 := sf_ma tw845 (p := 16) rfl
                have c873 := sf_ma tw845 (p := 17) rfl
                have c874 := sf_ma tw845 (p := 18) rfl
                have c875 := sf_ma tw845 (p := 19) rfl
                have c876 := sf_ma tw845 (p := 20) rfl
                have c877 := sf_ma tw845 (p := 24) rfl
                have c878 := sf_ma tw845 (p := 86) rfl
                have c879 := sf_ma tw845 (p := 25) rfl
                have c880 := sf_ma tw845 (p := 87) rfl
                have c881 := sf_ma tw845 (p := 23) rfl
                have c882 := sf_ma tw845 (p := 88) rfl
                have c883 := sf_ma tw845 (p := 26) rfl
                have c884 := sf_ma tw845 (p := 89) rfl
                have c885 := sf_ma tw845 (p := 27) rfl
                have c886 := sf_ma tw845 (p := 90) rfl
                have c887 := sf_ma tw845 (p := 36) rfl
                have c888 := sf_ma tw845 (p := 102) rfl
                have c889 := sf_ma tw845 (p := 37) rfl
                have c890 := sf_ma tw845 (p := 103) rfl
                have c891 := sf_mf tw845 (p := 60) (j := 0) rfl
                have c892 := sf_ma tw845 (p := 61) rfl
                have c893 := sf_ma tw845 (p := 62) rfl
                have c894 := sf_ma tw845 (p := 63) rfl
                have c895 := sf_ma tw845 (p := 65) rfl
                have c896 := sf_ma tw845 (p := 66) rfl
                have c897 := sf_mf tw845 (p := 71) (j := 56) rfl
                have c898 := sf_ma tw845 (p := 121) rfl
                have c899 := sf_ma tw845 (p := 122) rfl
                have c900 := sf_ma tw845 (p := 123) rfl
                have c901 := sf_ma tw845 (p := 125) rfl
                have c902 := sf_ma tw845 (p := 126) rfl
                have c903 := sf_ma tw845 (p := 38) rfl
                have c904 := sf_ma tw845 (p := 40) rfl
                have c905 := sf_ma tw845 (p := 41) rfl
                have c906 := sf_ma tw845 (p := 42) rfl
                have c907 := sf_ma tw845 (p := 43) rfl
                have c908 := sf_ma tw845 (p := 44) rfl
                have c909 := sf_ma tw845 (p := 47) rfl
                have c910 := sf_ma tw845 (p := 104) rfl
                have c911 := sf_ma tw845 (p := 106) rfl
                have c912 := sf_ma tw845 (p := 113) rfl
                have c913 := sf_ma tw845 (p := 107) rfl
                have c914 := sf_ma tw845 (p := 108) rfl
                have c915 := sf_ma tw845 (p := 110) rfl
                have c916 := sf_ma tw845 (p := 109) rfl
                have c917 := sf_mf tw845 (p := 71) (j := 41) rfl
                have c918 := sf_ma tw845 (p := 68) rfl
                have c919 := sf_ma tw845 (p := 69) rfl
                have c920 := sf_ma tw845 (p := 70) rfl
                have c921 := sf_ma tw845 (p := 127) rfl
                have c922 := sf_ma tw845 (p := 128) rfl
                have c923 := sf_ma tw845 (p := 129) rfl
                have U79 := q846_1
                have U80 := q846_2
                have U81 := q846_3
                have U82 := q846_4
                have U83 := q846_5
                have U84 := q846_6
                have U85 := q846_7
                clear q846_1 q846_2 q846_3 q846_4 q846_5 q846_6 q846_7
                have G1 := q846_0
                have hrc : v751.toInt = (sf_f w845 71 0).toInt := by omega
                have hcn : (v751.toInt = 0 ∧ (sf_f w845 71 10).toInt = (sf_f w 71 10).toInt + 1) ∨ (v751.toInt ≠ 0 ∧ (sf_f w845 71 10).toInt = (sf_f w 71 10).toInt) := by omega
                have hQ14 := sf_QH f_8 U14 U79 (by omega) hrc hcn
                have hQ15 := sf_QH f_9 U15 U80 (by omega) hrc hcn
                have hQ16 := sf_QH f_10 U16 U81 (by omega) hrc hcn
                have hQ17 := sf_QH f_11 U17 U82 (by omega) hrc hcn
                have hQ18 := sf_QH f_12 U18 U83 (by omega) hrc hcn
                have hQ19 := sf_QH f_13 U19 U84 (by omega) hrc hcn
                have hQ20 := sf_QH f_14 U20 U85 (by omega) hrc hcn
                refine sf_istore (L' := [(5, .inl (.int v751)), (0, .inl (.ref 100000)), (1, .inl (.ref 0)), (2, .inl (.ref 71)), (3, .inl (.ref 130)), (4, .inl (.int x4))]) rfl ?_
                show kt_W_law_1421 N xs K _ _ _ _ _
                refine sf_iinc (L' := [(6, .inl (.int v844)), (5, .inl (.int v751)), (0, .inl (.ref 100000)), (1, .inl (.ref 0)), (2, .inl (.ref 71)), (3, .inl (.ref 130))]) (x := x4) sf_c8 rfl rfl (by omega) (fun v924 ev924 => ?_)
                refine sf_can (L' := [(0, .inl (.ref 100000)), (1, .inl (.ref 0)), (2, .inl (.ref 71)), (3, .inl (.ref 130)), (4, .inl (.int v924))]) rfl ?_
                exact ih _ _ _ _ Iw845 (by omega) (by omega) (by omega) (by omega) (by rw [c847, c754]; rw [c848, c755]; rw [c849, c756]; rw [c850, c757]; rw [c851]; rw [c852, c759]; rw [c853, c760]; rw [c854, c761]; rw [c855, c762]; omega) (by rw [c856, c763]; rw [c857, c764]; rw [c848, c755]; first | exact f_1 | exact hJ) (by rw [c858, c765]; rw [c859, c766]; first | exact f_2 | exact hK2) (by rw [c861, c767]; rw [c857, c764]; rw [c848, c755]; first | exact f_3 | exact hQ2) (by rw [c862, c768]; rw [c863, c769]; rw [c850, c757]; first | exact f_4 | exact hQ6) (by rw [c864, c770]; rw [c865, c771]; rw [c850, c757]; first | exact f_5 | exact hQ7) (by rw [c866, c772]; rw [c867, c773]; rw [c850, c757]; first | exact f_6 | exact hQ8) (by rw [c868, c774]; rw [c869, c775]; rw [c850, c757]; first | exact f_7 | exact hQ9) (by rw [c870]; first | exact f_8 | exact hQ14) (by rw [c871]; first | exact f_9 | exact hQ15) (by rw [c872]; first | exact f_10 | exact hQ16) (by rw [c873]; first | exact f_11 | exact hQ17) (by rw [c874]; first | exact f_12 | exact hQ18) (by rw [c875]; first | exact f_13 | exact hQ19) (by rw [c876]; first | exact f_14 | exact hQ20) (by rw [c877, c783]; rw [c878, c784]; rw [c853, c760]; first | exact f_15 | exact hQ24) (by rw [c879, c785]; rw [c880, c786]; rw [c853, c760]; first | exact f_16 | exact hQ25) (by rw [c881, c787]; rw [c882, c788]; rw [c853, c760]; first | exact f_17 | exact hQ23) (by rw [c883, c789]; rw [c884, c790]; rw [c853, c760]; first | exact f_18 | exact hQ26) (by rw [c885, c791]; rw [c886, c792]; rw [c853, c760]; first | exact f_19 | exact hQ27) (by rw [c887, c793]; rw [c888, c794]; rw [c855, c762]; first | exact f_20 | exact hQ36) (by rw [c889, c795]; rw [c890, c796]; rw [c855, c762]; first | exact f_21 | exact hQ37) (by rw [c891, c797]; rw [c897, c803]; rw [c892, c798]; rw [c893, c799]; rw [c894, c800]; rw [c895, c801]; rw [c896, c802]; rw [c898, c804]; rw [c899, c805]; rw [c900, c806]; rw [c901, c807]; rw [c902, c808]; exact f_22) (by rw [c903, c809]; rw [c910, c816]; rw [c904, c810]; rw [c911, c817]; rw [c906, c812]; rw [c913, c819]; rw [c907, c813]; rw [c914, c820]; rw [c909, c815]; rw [c916, c822]; rw [c908, c814]; rw [c915, c821]; exact f_23) (by rw [c904, c810]; rw [c903, c809]; rw [c905, c811]; rw [c912, c818]; exact f_24) (by rw [c888, c794]; rw [c890, c796]; rw [c911, c817]; rw [c855, c762]; rw [c917, c823]; exact f_25) (by rw [c911, c817]; rw [c855, c762]; exact f_26) (by rw [c918, c824]; rw [c921, c827]; rw [c919, c825]; rw [c922, c828]; rw [c920, c826]; rw [c923, c829]; exact f_27) (by omega)
              · clear h736
                refine sf_sw1 sf_c5 (fun h925 => ?_) (fun h925 => ?_)
                · refine sf_aload rfl ?_
                  refine sf_aload rfl ?_
                  refine sf_iload rfl ?_
                  refine sf_iconst sf_c1 (fun z926 ez926 => ?_)
                  refine sf_iadd (by omega) (fun v927 ev927 => ?_)
                  refine sf_sldk (x := x4) (k := 1) (by omega) (by omega) (by omega) ?_
                  clear ev927 ez926
                  refine sf_aload rfl ?_
                  refine sf_iload rfl ?_
                  refine sf_iconst sf_c2 (fun z928 ez928 => ?_)
                  refine sf_iadd (by omega) (fun v929 ev929 => ?_)
                  refine sf_sldk (x := x4) (k := 2) (by omega) (by omega) (by omega) ?_
                  clear ev929 ez928
                  refine sf_aload rfl ?_
                  refine sf_iload rfl ?_
                  refine sf_iconst sf_c3 (fun z930 ez930 => ?_)
                  refine sf_iadd (by omega) (fun v931 ev931 => ?_)
                  refine sf_sldk (x := x4) (k := 3) (by omega) (by omega) (by omega) ?_
                  clear ev931 ez930
                  refine sf_aload rfl ?_
                  refine sf_callv5 rfl (by omega) (by omega) ?_
                  refine sc_W_rateFor_0_130 I_w  (fun v932 w933 Iw933 tw933 lv932 uv932 q934_0 => ?_)
                  have c935 := sf_mf tw933 (p := 1) (j := 0) rfl
                  have c936 := sf_mf tw933 (p := 71) (j := 1) rfl
                  have c937 := sf_mf tw933 (p := 1) (j := 5) rfl
                  have c938 := sf_mf tw933 (p := 71) (j := 5) rfl
                  have c939 := sf_mf tw933 (p := 13) (j := 1) rfl
                  have c940 := sf_mf tw933 (p := 71) (j := 10) rfl
                  have c941 := sf_mf tw933 (p := 21) (j := 1) rfl
                  have c942 := sf_mf tw933 (p := 71) (j := 18) rfl
                  have c943 := sf_mf tw933 (p := 35) (j := 0) rfl
                  have c944 := sf_mf tw933 (p := 71) (j := 35) rfl
                  have c945 := sf_ma tw933 (p := 3) rfl
                  have c946 := sf_ma tw933 (p := 72) rfl
                  have c947 := sf_mg tw933 (p := 10) rfl
                  have c948 := sf_ma tw933 (p := 93) rfl
                  have c949 := sf_ma tw933 (p := 2) rfl
                  have c950 := sf_ma tw933 (p := 6) rfl
                  have c951 := sf_ma tw933 (p := 75) rfl
                  have c952 := sf_ma tw933 (p := 7) rfl
                  have c953 := sf_ma tw933 (p := 76) rfl
                  have c954 := sf_ma tw933 (p := 8) rfl
                  have c955 := sf_ma tw933 (p := 77) rfl
                  have c956 := sf_ma tw933 (p := 9) rfl
                  have c957 := sf_ma tw933 (p := 78) rfl
                  have c958 := sf_ma tw933 (p := 14) rfl
                  have c959 := sf_ma tw933 (p := 79) rfl
                  have c960 := sf_ma tw933 (p := 15) rfl
                  have c961 := sf_ma tw933 (p := 80) rfl
                  have c962 := sf_ma tw933 (p := 16) rfl
                  have c963 := sf_ma tw933 (p := 81) rfl
                  have c964 := sf_ma tw933 (p := 17) rfl
                  have c965 := sf_ma tw933 (p := 82) rfl
                  have c966 := sf_ma tw933 (p := 18) rfl
                  have c967 := sf_ma tw933 (p := 83) rfl
                  have c968 := sf_ma tw933 (p := 19) rfl
                  have c969 := sf_ma tw933 (p := 84) rfl
                  have c970 := sf_ma tw933 (p := 20) rfl
                  have c971 := sf_ma tw933 (p := 85) rfl
                  have c972 := sf_ma tw933 (p := 24) rfl
                  have c973 := sf_ma tw933 (p := 86) rfl
                  have c974 := sf_ma tw933 (p := 25) rfl
                  have c975 := sf_ma tw933 (p := 87) rfl
                  have c976 := sf_ma tw933 (p := 23) rfl
                  have c977 := sf_ma tw933 (p := 88) rfl
                  have c978 := sf_ma tw933 (p := 26) rfl
                  have c979 := sf_ma tw933 (p := 89) rfl
                  have c980 := sf_ma tw933 (p := 27) rfl
                  have c981 := sf_ma tw933 (p := 90) rfl
                  have c982 := sf_ma tw933 (p := 36) rfl
                  have c983 := sf_ma tw933 (p := 102) rfl
                  have c984 := sf_ma tw933 (p := 37) rfl
                  have c985 := sf_ma tw933 (p := 103) rfl
                  have c986 := sf_mf tw933 (p := 60) (j := 0) rfl
                  have c987 := sf_ma tw933 (p := 61) rfl
                  have c988 := sf_ma tw933 (p := 62) rfl
                  have c989 := sf_ma tw933 (p := 63) rfl
                  have c990 := sf_ma tw933 (p := 65) rfl
                  have c991 := sf_ma tw933 (p := 66) rfl
                  have c992 := sf_mf tw933 (p := 71) (j := 56) rfl
                  have c993 := sf_ma tw933 (p := 121) rfl
                  have c994 := sf_ma tw933 (p := 122) rfl
                  have c995 := sf_ma tw933 (p := 123) rfl
                  have c996 := sf_ma tw933 (p := 125) rfl
                  have c997 := sf_ma tw933 (p := 126) rfl
                  have c998 := sf_ma tw933 (p := 38) rfl
                  have c999 := sf_ma tw933 (p := 40) rfl
                  have c1000 := sf_ma tw933 (p := 41) rfl
                  have c1001 := sf_ma tw933 (p := 42) rfl
                  have c1002 := sf_ma tw933 (p := 43) rfl
                  have c1003 := sf_ma tw933 (p := 44) rfl
                  have c1004 := sf_ma tw933 (p := 47) rfl
                  have c1005 := sf_ma tw933 (p := 104) rfl
                  have c1006 := sf_ma tw933 (p := 106) rfl
                  have c1007 := sf_ma tw933 (p := 113) rfl
                  have c1008 := sf_ma tw933 (p := 107) rfl
                  have c1009 := sf_ma tw933 (p := 108) rfl
                  have c1010 := sf_ma tw933 (p := 110) rfl
                  have c1011 := sf_ma tw933 (p := 109) rfl
                  have c1012 := sf_mf tw933 (p := 71) (j := 41) rfl
                  have c1013 := sf_ma tw933 (p := 68) rfl
                  have c1014 := sf_ma tw933 (p := 69) rfl
                  have c1015 := sf_ma tw933 (p := 70) rfl
                  have c1016 := sf_ma tw933 (p := 127) rfl
                  have c1017 := sf_ma tw933 (p := 128) rfl
                  have c1018 := sf_ma tw933 (p := 129) rfl
                  have F1 := q934_0
                  refine sf_istore (L' := [(0, .inl (.ref 100000)), (1, .inl (.ref 0)), (2, .inl (.ref 71)), (3, .inl (.ref 130)), (4, .inl (.int x4))]) rfl ?_
                  refine sf_aload rfl ?_
                  refine sf_aload rfl ?_
                  refine sf_iload rfl ?_
                  refine sf_iconst sf_c1 (fun z1019 ez1019 => ?_)
                  refine sf_iadd (by omega) (fun v1020 ev1020 => ?_)
                  refine sf_sldk (x := x4) (k := 1) (by omega) (by omega) (by omega) ?_
                  clear ev1020 ez1019
                  refine sf_aload rfl ?_
                  refine sf_iload rfl ?_
                  refine sf_iconst sf_c2 (fun z1021 ez1021 => ?_)
                  refine sf_iadd (by omega) (fun v1022 ev1022 => ?_)
                  refine sf_sldk (x := x4) (k := 2) (by omega) (by omega) (by omega) ?_
                  clear ev1022 ez1021
                  refine sf_aload rfl ?_
                  refine sf_iload rfl ?_
                  refine sf_iconst sf_c3 (fun z1023 ez1023 => ?_)
                  refine sf_iadd (by omega) (fun v1024 ev1024 => ?_)
                  refine sf_sldk (x := x4) (k := 3) (by omega) (by omega) (by omega) ?_
                  clear ev1024 ez1023
                  refine sf_callv4 rfl (by omega) (by omega) ?_
                  refine sf_rv Iw933 rfl ?_
                  refine sc_M_rateFor Iw933  (fun v1025 w1026 Iw1026 tw1026 lv1025 uv1025 q1027_0 => ?_)
                  rw [c946] at q1027_0
                  rw [c959] at q1027_0
                  rw [c961] at q1027_0
                  rw [c969] at q1027_0
                  rw [c971] at q1027_0
                  rw [c936] at q1027_0
                  rw [c940] at q1027_0
                  have c1028 := sf_mf tw1026 (p := 1) (j := 0) rfl
                  have c1029 := sf_mf tw1026 (p := 71) (j := 1) rfl
                  have c1030 := sf_mf tw1026 (p := 1) (j := 5) rfl
                  have c1031 := sf_mf tw1026 (p := 71) (j := 5) rfl
                  have c1032 := sf_mf tw1026 (p := 13) (j := 1) rfl
                  have c1033 := sf_mf tw1026 (p := 71) (j := 10) rfl
                  have c1034 := sf_mf tw1026 (p := 21) (j := 1) rfl
                  have c1035 := sf_mf tw1026 (p := 71) (j := 18) rfl
                  have c1036 := sf_mf tw1026 (p := 35) (j := 0) rfl
                  have c1037 := sf_mf tw1026 (p := 71) (j := 35) rfl
                  have c1038 := sf_ma tw1026 (p := 3) rfl
                  have c1039 := sf_ma tw1026 (p := 72) rfl
                  have c1040 := sf_mg tw1026 (p := 10) rfl
                  have c1041 := sf_ma tw1026 (p := 93) rfl
                  have c1042 := sf_mL tw1026 (p := 130) rfl
                  have c1043 := sf_ma tw1026 (p := 2) rfl
                  have c1044 := sf_ma tw1026 (p := 6) rfl
                  have c1045 := sf_ma tw1026 (p := 75) rfl
                  have c1046 := sf_ma tw1026 (p := 7) rfl
                  have c1047 := sf_ma tw1026 (p := 76) rfl
                  have c1048 := sf_ma tw1026 (p := 8) rfl
                  have c1049 := sf_ma tw1026 (p := 77) rfl
                  have c1050 := sf_ma tw1026 (p := 9) rfl
                  have c1051 := sf_ma tw1026 (p := 78) rfl
                  have c1052 := sf_ma tw1026 (p := 14) rfl
                  have c1053 := sf_ma tw1026 (p := 79) rfl
                  have c1054 := sf_ma tw1026 (p := 15) rfl
                  have c1055 := sf_ma tw1026 (p := 80) rfl
                  have c1056 := sf_ma tw1026 (p := 16) rfl
                  have c1057 := sf_ma tw1026 (p := 81) rfl
                  have c1058 := sf_ma tw1026 (p := 17) rfl
                  have c1059 := sf_ma tw1026 (p := 82) rfl
                  have c1060 := sf_ma tw1026 (p := 18) rfl
                  have c1061 := sf_ma tw1026 (p := 83) rfl
                  have c1062 := sf_ma tw1026 (p := 19) rfl
                  have c1063 := sf_ma tw1026 (p := 84) rfl
                  have c1064 := sf_ma tw1026 (p := 20) rfl
                  have c1065 := sf_ma tw1026 (p := 85) rfl
                  have c1066 := sf_ma tw1026 (p := 24) rfl
                  have c1067 := sf_ma tw1026 (p := 86) rfl
                  have c1068 := sf_ma tw1026 (p := 25) rfl
                  have c1069 := sf_ma tw1026 (p := 87) rfl
                  have c1070 := sf_ma tw1026 (p := 23) rfl
                  have c1071 := sf_ma tw1026 (p := 88) rfl
                  have c1072 := sf_ma tw1026 (p := 26) rfl
                  have c1073 := sf_ma tw1026 (p := 89) rfl
                  have c1074 := sf_ma tw1026 (p := 27) rfl
                  have c1075 := sf_ma tw1026 (p := 90) rfl
                  have c1076 := sf_ma tw1026 (p := 36) rfl
                  have c1077 := sf_ma tw1026 (p := 102) rfl
                  have c1078 := sf_ma tw1026 (p := 37) rfl
                  have c1079 := sf_ma tw1026 (p := 103) rfl
                  have c1080 := sf_mf tw1026 (p := 60) (j := 0) rfl
                  have c1081 := sf_ma tw1026 (p := 61) rfl
                  have c1082 := sf_ma tw1026 (p := 62) rfl
                  have c1083 := sf_ma tw1026 (p := 63) rfl
                  have c1084 := sf_ma tw1026 (p := 65) rfl
                  have c1085 := sf_ma tw1026 (p := 66) rfl
                  have c1086 := sf_mf tw1026 (p := 71) (j := 56) rfl
                  have c1087 := sf_ma tw1026 (p := 121) rfl
                  have c1088 := sf_ma tw1026 (p := 122) rfl
                  have c1089 := sf_ma tw1026 (p := 123) rfl
                  have c1090 := sf_ma tw1026 (p := 125) rfl
                  have c1091 := sf_ma tw1026 (p := 126) rfl
                  have c1092 := sf_ma tw1026 (p := 38) rfl
                  have c1093 := sf_ma tw1026 (p := 40) rfl
                  have c1094 := sf_ma tw1026 (p := 41) rfl
                  have c1095 := sf_ma tw1026 (p := 42) rfl
                  have c1096 := sf_ma tw1026 (p := 43) rfl
                  have c1097 := sf_ma tw1026 (p := 44) rfl
                  have c1098 := sf_ma tw1026 (p := 47) rfl
                  have c1099 := sf_ma tw1026 (p := 104) rfl
                  have c1100 := sf_ma tw1026 (p := 106) rfl
                  have c1101 := sf_ma tw1026 (p := 113) rfl
                  have c1102 := sf_ma tw1026 (p := 107) rfl
                  have c1103 := sf_ma tw1026 (p := 108) rfl
                  have c1104 := sf_ma tw1026 (p := 110) rfl
                  have c1105 := sf_ma tw1026 (p := 109) rfl
                  have c1106 := sf_mf tw1026 (p := 71) (j := 41) rfl
                  have c1107 := sf_ma tw1026 (p := 68) rfl
                  have c1108 := sf_ma tw1026 (p := 69) rfl
                  have c1109 := sf_ma tw1026 (p := 70) rfl
                  have c1110 := sf_ma tw1026 (p := 127) rfl
                  have c1111 := sf_ma tw1026 (p := 128) rfl
                  have c1112 := sf_ma tw1026 (p := 129) rfl
                  have G1 := q1027_0
                  have hE : 0 ≤ (xs (x4.toInt.toNat + 1)).toInt → (xs (x4.toInt.toNat + 1)).toInt < (sf_f w 71 1).toInt → sr_up (sf_a w 2) (sr_G (sf_a w 14) (sf_a w 15) (sf_a w 19) (sf_a w 20) (xs (x4.toInt.toNat + 2)).toInt (xs (x4.toInt.toNat + 3)).toInt (sf_f w 13 1).toInt.toNat) 6 (xs (x4.toInt.toNat + 1)).toInt = sr_up (sf_a w 72) (sr_G (sf_a w 79) (sf_a w 80) (sf_a w 84) (sf_a w 85) (xs (x4.toInt.toNat + 2)).toInt (xs (x4.toInt.toNat + 3)).toInt (sf_f w 71 10).toInt.toNat) ((xs (x4.toInt.toNat + 1)).toInt + 1).toNat (xs (x4.toInt.toNat + 1)).toInt := fun h1 h2 => sr_upE f_1 f_3 (fun i _ => sr_gE f_8 f_9 f_13 f_14 _ _ (by omega) i) 6 6 _ _ h2 (fun h3 => by have h4 := (f_1 (xs (x4.toInt.toNat + 1)).toInt.toNat (by omega)).2.2.2.1; omega) (Nat.le_refl _) (by omega)
                  refine sf_istore (L' := [(5, .inl (.int v932)), (0, .inl (.ref 100000)), (1, .inl (.ref 0)), (2, .inl (.ref 71)), (3, .inl (.ref 130)), (4, .inl (.int x4))]) rfl ?_
                  show kt_W_law_1421 N xs K _ _ _ _ _
                  refine sf_iinc (L' := [(6, .inl (.int v1025)), (5, .inl (.int v932)), (0, .inl (.ref 100000)), (1, .inl (.ref 0)), (2, .inl (.ref 71)), (3, .inl (.ref 130))]) (x := x4) sf_c8 rfl rfl (by omega) (fun v1113 ev1113 => ?_)
                  refine sf_can (L' := [(0, .inl (.ref 100000)), (1, .inl (.ref 0)), (2, .inl (.ref 71)), (3, .inl (.ref 130)), (4, .inl (.int v1113))]) rfl ?_
                  exact ih _ _ _ _ Iw1026 (by omega) (by omega) (by omega) (by omega) (by rw [c1028, c935]; rw [c1029, c936]; rw [c1030, c937]; rw [c1031, c938]; rw [c1032, c939]; rw [c1033, c940]; rw [c1034, c941]; rw [c1035, c942]; rw [c1036, c943]; rw [c1037, c944]; omega) (by rw [c1038, c945]; rw [c1039, c946]; rw [c1029, c936]; first | exact f_1 | exact hJ) (by rw [c1040, c947]; rw [c1041, c948]; first | exact f_2 | exact hK2) (by rw [c1043, c949]; rw [c1039, c946]; rw [c1029, c936]; first | exact f_3 | exact hQ2) (by rw [c1044, c950]; rw [c1045, c951]; rw [c1031, c938]; first | exact f_4 | exact hQ6) (by rw [c1046, c952]; rw [c1047, c953]; rw [c1031, c938]; first | exact f_5 | exact hQ7) (by rw [c1048, c954]; rw [c1049, c955]; rw [c1031, c938]; first | exact f_6 | exact hQ8) (by rw [c1050, c956]; rw [c1051, c957]; rw [c1031, c938]; first | exact f_7 | exact hQ9) (by rw [c1052, c958]; rw [c1053, c959]; rw [c1033, c940]; first | exact f_8 | exact hQ14) (by rw [c1054, c960]; rw [c1055, c961]; rw [c1033, c940]; first | exact f_9 | exact hQ15) (by rw [c1056, c962]; rw [c1057, c963]; rw [c1033, c940]; first | exact f_10 | exact hQ16) (by rw [c1058, c964]; rw [c1059, c965]; rw [c1033, c940]; first | exact f_11 | exact hQ17) (by rw [c1060, c966]; rw [c1061, c967]; rw [c1033, c940]; first | exact f_12 | exact hQ18) (by rw [c1062, c968]; rw [c1063, c969]; rw [c1033, c940]; first | exact f_13 | exact hQ19) (by rw [c1064, c970]; rw [c1065, c971]; rw [c1033, c940]; first | exact f_14 | exact hQ20) (by rw [c1066, c972]; rw [c1067, c973]; rw [c1035, c942]; first | exact f_15 | exact hQ24) (by rw [c1068, c974]; rw [c1069, c975]; rw [c1035, c942]; first | exact f_16 | exact hQ25) (by rw [c1070, c976]; rw [c1071, c977]; rw [c1035, c942]; first | exact f_17 | exact hQ23) (by rw [c1072, c978]; rw [c1073, c979]; rw [c1035, c942]; first | exact f_18 | exact hQ26) (by rw [c1074, c980]; rw [c1075, c981]; rw [c1035, c942]; first | exact f_19 | exact hQ27) (by rw [c1076, c982]; rw [c1077, c983]; rw [c1037, c944]; first | exact f_20 | exact hQ36) (by rw [c1078, c984]; rw [c1079, c985]; rw [c1037, c944]; first | exact f_21 | exact hQ37) (by rw [c1080, c986]; rw [c1086, c992]; rw [c1081, c987]; rw [c1082, c988]; rw [c1083, c989]; rw [c1084, c990]; rw [c1085, c991]; rw [c1087, c993]; rw [c1088, c994]; rw [c1089, c995]; rw [c1090, c996]; rw [c1091, c997]; exact f_22) (by rw [c1092, c998]; rw [c1099, c1005]; rw [c1093, c999]; rw [c1100, c1006]; rw [c1095, c1001]; rw [c1102, c1008]; rw [c1096, c1002]; rw [c1103, c1009]; rw [c1098, c1004]; rw [c1105, c1011]; rw [c1097, c1003]; rw [c1104, c1010]; exact f_23) (by rw [c1093, c999]; rw [c1092, c998]; rw [c1094, c1000]; rw [c1101, c1007]; exact f_24) (by rw [c1077, c983]; rw [c1079, c985]; rw [c1100, c1006]; rw [c1037, c944]; rw [c1106, c1012]; exact f_25) (by rw [c1100, c1006]; rw [c1037, c944]; exact f_26) (by rw [c1107, c1013]; rw [c1110, c1016]; rw [c1108, c1014]; rw [c1111, c1017]; rw [c1109, c1015]; rw [c1112, c1018]; exact f_27) (by omega)
                · clear h925
                  refine sf_sw1 sf_c6 (fun h1114 => ?_) (fun h1114 => ?_)
                  · refine sf_aload rfl ?_
                    refine sf_aload rfl ?_
                    refine sf_iload rfl ?_
                    refine sf_iconst sf_c1 (fun z1115 ez1115 => ?_)
                    refine sf_iadd (by omega) (fun v1116 ev1116 => ?_)
                    refine sf_sldk (x := x4) (k := 1) (by omega) (by omega) (by omega) ?_
                    clear ev1116 ez1115
                    refine sf_aload rfl ?_
                    refine sf_iload rfl ?_
                    refine sf_iconst sf_c2 (fun z1117 ez1117 => ?_)
                    refine sf_iadd (by omega) (fun v1118 ev1118 => ?_)
                    refine sf_sldk (x := x4) (k := 2) (by omega) (by omega) (by omega) ?_
                    clear ev1118 ez1117
                    refine sf_aload rfl ?_
                    refine sf_iload rfl ?_
                    refine sf_iconst sf_c3 (fun z1119 ez1119 => ?_)
                    refine sf_iadd (by omega) (fun v1120 ev1120 => ?_)
                    refine sf_sldk (x := x4) (k := 3) (by omega) (by omega) (by omega) ?_
                    clear ev1120 ez1119
                    refine sf_aload rfl ?_
                    refine sf_iload rfl ?_
                    refine sf_iconst sf_c4 (fun z1121 ez1121 => ?_)
                    refine sf_iadd (by omega) (fun v1122 ev1122 => ?_)
                    refine sf_sldk (x := x4) (k := 4) (by omega) (by omega) (by omega) ?_
                    clear ev1122 ez1121
                    refine sf_aload rfl ?_
                    refine sf_iload rfl ?_
                    refine sf_iconst sf_c5 (fun z1123 ez1123 => ?_)
                    refine sf_iadd (by omega) (fun v1124 ev1124 => ?_)
                    refine sf_sldk (x := x4) (k := 5) (by omega) (by omega) (by omega) ?_
                    clear ev1124 ez1123
                    refine sf_aload rfl ?_
                    refine sf_iload rfl ?_
                    refine sf_iconst sf_c6 (fun z1125 ez1125 => ?_)
                    refine sf_iadd (by omega) (fun v1126 ev1126 => ?_)
                    refine sf_sldk (x := x4) (k := 6) (by omega) (by omega) (by omega) ?_
                    clear ev1126 ez1125
                    refine sf_aload rfl ?_
                    refine sf_callv8 rfl (by omega) (by omega) ?_
                    refine sc_W_quota_0_130 I_w  (fun v1127 w1128 Iw1128 tw1128 lv1127 uv1127 q1129_0 q1129_1 q1129_2 q1129_3 q1129_4 q1129_5 => ?_)
                    have c1130 := sf_mf tw1128 (p := 1) (j := 0) rfl
                    have c1131 := sf_mf tw1128 (p := 71) (j := 1) rfl
                    have c1132 := sf_mf tw1128 (p := 1) (j := 5) rfl
                    have c1133 := sf_mf tw1128 (p := 71) (j := 5) rfl
                    have c1134 := sf_mf tw1128 (p := 13) (j := 1) rfl
                    have c1135 := sf_mf tw1128 (p := 71) (j := 10) rfl
                    have c1136 := sf_mf tw1128 (p := 71) (j := 18) rfl
                    have c1137 := sf_mf tw1128 (p := 35) (j := 0) rfl
                    have c1138 := sf_mf tw1128 (p := 71) (j := 35) rfl
                    have c1139 := sf_ma tw1128 (p := 3) rfl
                    have c1140 := sf_ma tw1128 (p := 72) rfl
                    have c1141 := sf_mg tw1128 (p := 10) rfl
                    have c1142 := sf_ma tw1128 (p := 93) rfl
                    have c1143 := sf_ma tw1128 (p := 2) rfl
                    have c1144 := sf_ma tw1128 (p := 6) rfl
                    have c1145 := sf_ma tw1128 (p := 75) rfl
                    have c1146 := sf_ma tw1128 (p := 7) rfl
                    have c1147 := sf_ma tw1128 (p := 76) rfl
                    have c1148 := sf_ma tw1128 (p := 8) rfl
                    have c1149 := sf_ma tw1128 (p := 77) rfl
                    have c1150 := sf_ma tw1128 (p := 9) rfl
                    have c1151 := sf_ma tw1128 (p := 78) rfl
                    have c1152 := sf_ma tw1128 (p := 14) rfl
                    have c1153 := sf_ma tw1128 (p := 79) rfl
                    have c1154 := sf_ma tw1128 (p := 15) rfl
                    have c1155 := sf_ma tw1128 (p := 80) rfl
                    have c1156 := sf_ma tw1128 (p := 16) rfl
                    have c1157 := sf_ma tw1128 (p := 81) rfl
                    have c1158 := sf_ma tw1128 (p := 17) rfl
                    have c1159 := sf_ma tw1128 (p := 82) rfl
                    have c1160 := sf_ma tw1128 (p := 18) rfl
                    have c1161 := sf_ma tw1128 (p := 83) rfl
                    have c1162 := sf_ma tw1128 (p := 19) rfl
                    have c1163 := sf_ma tw1128 (p := 84) rfl
                    have c1164 := sf_ma tw1128 (p := 20) rfl
                    have c1165 := sf_ma tw1128 (p := 85) rfl
                    have c1166 := sf_ma tw1128 (p := 86) rfl
                    have c1167 := sf_ma tw1128 (p := 87) rfl
                    have c1168 := sf_ma tw1128 (p := 88) rfl
                    have c1169 := sf_ma tw1128 (p := 89) rfl
                    have c1170 := sf_ma tw1128 (p := 90) rfl
                    have c1171 := sf_ma tw1128 (p := 36) rfl
                    have c1172 := sf_ma tw1128 (p := 102) rfl
                    have c1173 := sf_ma tw1128 (p := 37) rfl
                    have c1174 := sf_ma tw1128 (p := 103) rfl
                    have c1175 := sf_mf tw1128 (p := 60) (j := 0) rfl
                    have c1176 := sf_ma tw1128 (p := 61) rfl
                    have c1177 := sf_ma tw1128 (p := 62) rfl
                    have c1178 := sf_ma tw1128 (p := 63) rfl
                    have c1179 := sf_ma tw1128 (p := 65) rfl
                    have c1180 := sf_ma tw1128 (p := 66) rfl
                    have c1181 := sf_mf tw1128 (p := 71) (j := 56) rfl
                    have c1182 := sf_ma tw1128 (p := 121) rfl
                    have c1183 := sf_ma tw1128 (p := 122) rfl
                    have c1184 := sf_ma tw1128 (p := 123) rfl
                    have c1185 := sf_ma tw1128 (p := 125) rfl
                    have c1186 := sf_ma tw1128 (p := 126) rfl
                    have c1187 := sf_ma tw1128 (p := 38) rfl
                    have c1188 := sf_ma tw1128 (p := 40) rfl
                    have c1189 := sf_ma tw1128 (p := 41) rfl
                    have c1190 := sf_ma tw1128 (p := 42) rfl
                    have c1191 := sf_ma tw1128 (p := 43) rfl
                    have c1192 := sf_ma tw1128 (p := 44) rfl
                    have c1193 := sf_ma tw1128 (p := 47) rfl
                    have c1194 := sf_ma tw1128 (p := 104) rfl
                    have c1195 := sf_ma tw1128 (p := 106) rfl
                    have c1196 := sf_ma tw1128 (p := 113) rfl
                    have c1197 := sf_ma tw1128 (p := 107) rfl
                    have c1198 := sf_ma tw1128 (p := 108) rfl
                    have c1199 := sf_ma tw1128 (p := 110) rfl
                    have c1200 := sf_ma tw1128 (p := 109) rfl
                    have c1201 := sf_mf tw1128 (p := 71) (j := 41) rfl
                    have c1202 := sf_ma tw1128 (p := 68) rfl
                    have c1203 := sf_ma tw1128 (p := 69) rfl
                    have c1204 := sf_ma tw1128 (p := 70) rfl
                    have c1205 := sf_ma tw1128 (p := 127) rfl
                    have c1206 := sf_ma tw1128 (p := 128) rfl
                    have c1207 := sf_ma tw1128 (p := 129) rfl
                    have U24 := q1129_1
                    have U25 := q1129_2
                    have U23 := q1129_3
                    have U26 := q1129_4
                    have U27 := q1129_5
                    clear q1129_1 q1129_2 q1129_3 q1129_4 q1129_5
                    have F1 := q1129_0
                    refine sf_istore (L' := [(0, .inl (.ref 100000)), (1, .inl (.ref 0)), (2, .inl (.ref 71)), (3, .inl (.ref 130)), (4, .inl (.int x4))]) rfl ?_
                    refine sf_aload rfl ?_
                    refine sf_aload rfl ?_
                    refine sf_iload rfl ?_
                    refine sf_iconst sf_c1 (fun z1208 ez1208 => ?_)
                    refine sf_iadd (by omega) (fun v1209 ev1209 => ?_)
                    refine sf_sldk (x := x4) (k := 1) (by omega) (by omega) (by omega) ?_
                    clear ev1209 ez1208
                    refine sf_aload rfl ?_
                    refine sf_iload rfl ?_
                    refine sf_iconst sf_c2 (fun z1210 ez1210 => ?_)
                    refine sf_iadd (by omega) (fun v1211 ev1211 => ?_)
                    refine sf_sldk (x := x4) (k := 2) (by omega) (by omega) (by omega) ?_
                    clear ev1211 ez1210
                    refine sf_aload rfl ?_
                    refine sf_iload rfl ?_
                    refine sf_iconst sf_c3 (fun z1212 ez1212 => ?_)
                    refine sf_iadd (by omega) (fun v1213 ev1213 => ?_)
                    refine sf_sldk (x := x4) (k := 3) (by omega) (by omega) (by omega) ?_
                    clear ev1213 ez1212
                    refine sf_aload rfl ?_
                    refine sf_iload rfl ?_
                    refine sf_iconst sf_c4 (fun z1214 ez1214 => ?_)
                    refine sf_iadd (by omega) (fun v1215 ev1215 => ?_)
                    refine sf_sldk (x := x4) (k := 4) (by omega) (by omega) (by omega) ?_
                    clear ev1215 ez1214
                    refine sf_aload rfl ?_
                    refine sf_iload rfl ?_
                    refine sf_iconst sf_c5 (fun z1216 ez1216 => ?_)
                    refine sf_iadd (by omega) (fun v1217 ev1217 => ?_)
                    refine sf_sldk (x := x4) (k := 5) (by omega) (by omega) (by omega) ?_
                    clear ev1217 ez1216
                    refine sf_aload rfl ?_
                    refine sf_iload rfl ?_
                    refine sf_iconst sf_c6 (fun z1218 ez1218 => ?_)
                    refine sf_iadd (by omega) (fun v1219 ev1219 => ?_)
                    refine sf_sldk (x := x4) (k := 6) (by omega) (by omega) (by omega) ?_
                    clear ev1219 ez1218
                    refine sf_callv7 rfl (by omega) (by omega) ?_
                    refine sf_rv Iw1128 rfl ?_
                    refine sc_M_quota Iw1128  (fun v1220 w1221 Iw1221 tw1221 lv1220 uv1220 q1222_0 q1222_1 q1222_2 q1222_3 q1222_4 q1222_5 => ?_)
                    rw [c1131] at q1222_0
                    rw [c1136] at q1222_0
                    rw [c1166] at q1222_1
                    rw [c1136] at q1222_1
                    rw [c1167] at q1222_2
                    rw [c1136] at q1222_2
                    rw [c1168] at q1222_3
                    rw [c1136] at q1222_3
                    rw [c1169] at q1222_4
                    rw [c1136] at q1222_4
                    rw [c1170] at q1222_5
                    rw [c1136] at q1222_5
                    have c1223 := sf_mf tw1221 (p := 1) (j := 0) rfl
                    have c1224 := sf_mf tw1221 (p := 71) (j := 1) rfl
                    have c1225 := sf_mf tw1221 (p := 1) (j := 5) rfl
                    have c1226 := sf_mf tw1221 (p := 71) (j := 5) rfl
                    have c1227 := sf_mf tw1221 (p := 13) (j := 1) rfl
                    have c1228 := sf_mf tw1221 (p := 71) (j := 10) rfl
                    have c1229 := sf_mf tw1221 (p := 21) (j := 1) rfl
                    have c1230 := sf_mf tw1221 (p := 35) (j := 0) rfl
                    have c1231 := sf_mf tw1221 (p := 71) (j := 35) rfl
                    have c1232 := sf_ma tw1221 (p := 3) rfl
                    have c1233 := sf_ma tw1221 (p := 72) rfl
                    have c1234 := sf_mg tw1221 (p := 10) rfl
                    have c1235 := sf_ma tw1221 (p := 93) rfl
                    have c1236 := sf_mL tw1221 (p := 130) rfl
                    have c1237 := sf_ma tw1221 (p := 2) rfl
                    have c1238 := sf_ma tw1221 (p := 6) rfl
                    have c1239 := sf_ma tw1221 (p := 75) rfl
                    have c1240 := sf_ma tw1221 (p := 7) rfl
                    have c1241 := sf_ma tw1221 (p := 76) rfl
                    have c1242 := sf_ma tw1221 (p := 8) rfl
                    have c1243 := sf_ma tw1221 (p := 77) rfl
                    have c1244 := sf_ma tw1221 (p := 9) rfl
                    have c1245 := sf_ma tw1221 (p := 78) rfl
                    have c1246 := sf_ma tw1221 (p := 14) rfl
                    have c1247 := sf_ma tw1221 (p := 79) rfl
                    have c1248 := sf_ma tw1221 (p := 15) rfl
                    have c1249 := sf_ma tw1221 (p := 80) rfl
                    have c1250 := sf_ma tw1221 (p := 16) rfl
                    have c1251 := sf_ma tw1221 (p := 81) rfl
                    have c1252 := sf_ma tw1221 (p := 17) rfl
                    have c1253 := sf_ma tw1221 (p := 82) rfl
                    have c1254 := sf_ma tw1221 (p := 18) rfl
                    have c1255 := sf_ma tw1221 (p := 83) rfl
                    have c1256 := sf_ma tw1221 (p := 19) rfl
                    have c1257 := sf_ma tw1221 (p := 84) rfl
                    have c1258 := sf_ma tw1221 (p := 20) rfl
                    have c1259 := sf_ma tw1221 (p := 85) rfl
                    have c1260 := sf_ma tw1221 (p := 24) rfl
                    have c1261 := sf_ma tw1221 (p := 25) rfl
                    have c1262 := sf_ma tw1221 (p := 23) rfl
                    have c1263 := sf_ma tw1221 (p := 26) rfl
                    have c1264 := sf_ma tw1221 (p := 27) rfl
                    have c1265 := sf_ma tw1221 (p := 36) rfl
                    have c1266 := sf_ma tw1221 (p := 102) rfl
                    have c1267 := sf_ma tw1221 (p := 37) rfl
                    have c1268 := sf_ma tw1221 (p := 103) rfl
                    have c1269 := sf_mf tw1221 (p := 60) (j := 0) rfl
                    have c1270 := sf_ma tw1221 (p := 61) rfl
                    have c1271 := sf_ma tw1221 (p := 62) rfl
                    have c1272 := sf_ma tw1221 (p := 63) rfl
                    have c1273 := sf_ma tw1221 (p := 65) rfl
                    have c1274 := sf_ma tw1221 (p := 66) rfl
                    have c1275 := sf_mf tw1221 (p := 71) (j := 56) rfl
                    have c1276 := sf_ma tw1221 (p := 121) rfl
                    have c1277 := sf_ma tw1221 (p := 122) rfl
                    have c1278 := sf_ma tw1221 (p := 123) rfl
                    have c1279 := sf_ma tw1221 (p := 125) rfl
                    have c1280 := sf_ma tw1221 (p := 126) rfl
                    have c1281 := sf_ma tw1221 (p := 38) rfl
                    have c1282 := sf_ma tw1221 (p := 40) rfl
                    have c1283 := sf_ma tw1221 (p := 41) rfl
                    have c1284 := sf_ma tw1221 (p := 42) rfl
                    have c1285 := sf_ma tw1221 (p := 43) rfl
                    have c1286 := sf_ma tw1221 (p := 44) rfl
                    have c1287 := sf_ma tw1221 (p := 47) rfl
                    have c1288 := sf_ma tw1221 (p := 104) rfl
                    have c1289 := sf_ma tw1221 (p := 106) rfl
                    have c1290 := sf_ma tw1221 (p := 113) rfl
                    have c1291 := sf_ma tw1221 (p := 107) rfl
                    have c1292 := sf_ma tw1221 (p := 108) rfl
                    have c1293 := sf_ma tw1221 (p := 110) rfl
                    have c1294 := sf_ma tw1221 (p := 109) rfl
                    have c1295 := sf_mf tw1221 (p := 71) (j := 41) rfl
                    have c1296 := sf_ma tw1221 (p := 68) rfl
                    have c1297 := sf_ma tw1221 (p := 69) rfl
                    have c1298 := sf_ma tw1221 (p := 70) rfl
                    have c1299 := sf_ma tw1221 (p := 127) rfl
                    have c1300 := sf_ma tw1221 (p := 128) rfl
                    have c1301 := sf_ma tw1221 (p := 129) rfl
                    have U86 := q1222_1
                    have U87 := q1222_2
                    have U88 := q1222_3
                    have U89 := q1222_4
                    have U90 := q1222_5
                    clear q1222_1 q1222_2 q1222_3 q1222_4 q1222_5
                    have G1 := q1222_0
                    have hrc : v1127.toInt = (sf_f w1221 71 0).toInt := by omega
                    have hcn : (v1127.toInt = 0 ∧ (sf_f w1221 71 18).toInt = (sf_f w 71 18).toInt + 1) ∨ (v1127.toInt ≠ 0 ∧ (sf_f w1221 71 18).toInt = (sf_f w 71 18).toInt) := by omega
                    have hQ24 := sf_QH f_15 U24 U86 (by omega) hrc hcn
                    have hQ25 := sf_QH f_16 U25 U87 (by omega) hrc hcn
                    have hQ23 := sf_QH f_17 U23 U88 (by omega) hrc hcn
                    have hQ26 := sf_QH f_18 U26 U89 (by omega) hrc hcn
                    have hQ27 := sf_QH f_19 U27 U90 (by omega) hrc hcn
                    refine sf_istore (L' := [(5, .inl (.int v1127)), (0, .inl (.ref 100000)), (1, .inl (.ref 0)), (2, .inl (.ref 71)), (3, .inl (.ref 130)), (4, .inl (.int x4))]) rfl ?_
                    show kt_W_law_1421 N xs K _ _ _ _ _
                    refine sf_iinc (L' := [(6, .inl (.int v1220)), (5, .inl (.int v1127)), (0, .inl (.ref 100000)), (1, .inl (.ref 0)), (2, .inl (.ref 71)), (3, .inl (.ref 130))]) (x := x4) sf_c8 rfl rfl (by omega) (fun v1302 ev1302 => ?_)
                    refine sf_can (L' := [(0, .inl (.ref 100000)), (1, .inl (.ref 0)), (2, .inl (.ref 71)), (3, .inl (.ref 130)), (4, .inl (.int v1302))]) rfl ?_
                    exact ih _ _ _ _ Iw1221 (by omega) (by omega) (by omega) (by omega) (by rw [c1223, c1130]; rw [c1224, c1131]; rw [c1225, c1132]; rw [c1226, c1133]; rw [c1227, c1134]; rw [c1228, c1135]; rw [c1229]; rw [c1230, c1137]; rw [c1231, c1138]; omega) (by rw [c1232, c1139]; rw [c1233, c1140]; rw [c1224, c1131]; first | exact f_1 | exact hJ) (by rw [c1234, c1141]; rw [c1235, c1142]; first | exact f_2 | exact hK2) (by rw [c1237, c1143]; rw [c1233, c1140]; rw [c1224, c1131]; first | exact f_3 | exact hQ2) (by rw [c1238, c1144]; rw [c1239, c1145]; rw [c1226, c1133]; first | exact f_4 | exact hQ6) (by rw [c1240, c1146]; rw [c1241, c1147]; rw [c1226, c1133]; first | exact f_5 | exact hQ7) (by rw [c1242, c1148]; rw [c1243, c1149]; rw [c1226, c1133]; first | exact f_6 | exact hQ8) (by rw [c1244, c1150]; rw [c1245, c1151]; rw [c1226, c1133]; first | exact f_7 | exact hQ9) (by rw [c1246, c1152]; rw [c1247, c1153]; rw [c1228, c1135]; first | exact f_8 | exact hQ14) (by rw [c1248, c1154]; rw [c1249, c1155]; rw [c1228, c1135]; first | exact f_9 | exact hQ15) (by rw [c1250, c1156]; rw [c1251, c1157]; rw [c1228, c1135]; first | exact f_10 | exact hQ16) (by rw [c1252, c1158]; rw [c1253, c1159]; rw [c1228, c1135]; first | exact f_11 | exact hQ17) (by rw [c1254, c1160]; rw [c1255, c1161]; rw [c1228, c1135]; first | exact f_12 | exact hQ18) (by rw [c1256, c1162]; rw [c1257, c1163]; rw [c1228, c1135]; first | exact f_13 | exact hQ19) (by rw [c1258, c1164]; rw [c1259, c1165]; rw [c1228, c1135]; first | exact f_14 | exact hQ20) (by rw [c1260]; first | exact f_15 | exact hQ24) (by rw [c1261]; first | exact f_16 | exact hQ25) (by rw [c1262]; first | exact f_17 | exact hQ23) (by rw [c1263]; first | exact f_18 | exact hQ26) (by rw [c1264]; first | exact f_19 | exact hQ27) (by rw [c1265, c1171]; rw [c1266, c1172]; rw [c1231, c1138]; first | exact f_20 | exact hQ36) (by rw [c1267, c1173]; rw [c1268, c1174]; rw [c1231, c1138]; first | exact f_21 | exact hQ37) (by rw [c1269, c1175]; rw [c1275, c1181]; rw [c1270, c1176]; rw [c1271, c1177]; rw [c1272, c1178]; rw [c1273, c1179]; rw [c1274, c1180]; rw [c1276, c1182]; rw [c1277, c1183]; rw [c1278, c1184]; rw [c1279, c1185]; rw [c1280, c1186]; exact f_22) (by rw [c1281, c1187]; rw [c1288, c1194]; rw [c1282, c1188]; rw [c1289, c1195]; rw [c1284, c1190]; rw [c1291, c1197]; rw [c1285, c1191]; rw [c1292, c1198]; rw [c1287, c1193]; rw [c1294, c1200]; rw [c1286, c1192]; rw [c1293, c1199]; exact f_23) (by rw [c1282, c1188]; rw [c1281, c1187]; rw [c1283, c1189]; rw [c1290, c1196]; exact f_24) (by rw [c1266, c1172]; rw [c1268, c1174]; rw [c1289, c1195]; rw [c1231, c1138]; rw [c1295, c1201]; exact f_25) (by rw [c1289, c1195]; rw [c1231, c1138]; exact f_26) (by rw [c1296, c1202]; rw [c1299, c1205]; rw [c1297, c1203]; rw [c1300, c1206]; rw [c1298, c1204]; rw [c1301, c1207]; exact f_27) (by omega)
                  · clear h1114
                    refine sf_sw1 sf_c7 (fun h1303 => ?_) (fun h1303 => ?_)
                    · refine sf_aload rfl ?_
                      refine sf_aload rfl ?_
                      refine sf_iload rfl ?_
                      refine sf_iconst sf_c1 (fun z1304 ez1304 => ?_)
                      refine sf_iadd (by omega) (fun v1305 ev1305 => ?_)
                      refine sf_sldk (x := x4) (k := 1) (by omega) (by omega) (by omega) ?_
                      clear ev1305 ez1304
                      refine sf_aload rfl ?_
                      refine sf_callv3 rfl (by omega) (by omega) ?_
                      refine sc_W_quotaLeft_0_130 I_w  (fun v1306 w1307 Iw1307 tw1307 lv1306 uv1306 => ?_)
                      have c1309 := sf_mf tw1307 (p := 1) (j := 0) rfl
                      have c1310 := sf_mf tw1307 (p := 71) (j := 1) rfl
                      have c1311 := sf_mf tw1307 (p := 1) (j := 5) rfl
                      have c1312 := sf_mf tw1307 (p := 71) (j := 5) rfl
                      have c1313 := sf_mf tw1307 (p := 13) (j := 1) rfl
                      have c1314 := sf_mf tw1307 (p := 71) (j := 10) rfl
                      have c1315 := sf_mf tw1307 (p := 21) (j := 1) rfl
                      have c1316 := sf_mf tw1307 (p := 71) (j := 18) rfl
                      have c1317 := sf_mf tw1307 (p := 35) (j := 0) rfl
                      have c1318 := sf_mf tw1307 (p := 71) (j := 35) rfl
                      have c1319 := sf_ma tw1307 (p := 3) rfl
                      have c1320 := sf_ma tw1307 (p := 72) rfl
                      have c1321 := sf_mg tw1307 (p := 10) rfl
                      have c1322 := sf_ma tw1307 (p := 93) rfl
                      have c1323 := sf_ma tw1307 (p := 2) rfl
                      have c1324 := sf_ma tw1307 (p := 6) rfl
                      have c1325 := sf_ma tw1307 (p := 75) rfl
                      have c1326 := sf_ma tw1307 (p := 7) rfl
                      have c1327 := sf_ma tw1307 (p := 76) rfl
                      have c1328 := sf_ma tw1307 (p := 8) rfl
                      have c1329 := sf_ma tw1307 (p := 77) rfl
                      have c1330 := sf_ma tw1307 (p := 9) rfl
                      have c1331 := sf_ma tw1307 (p := 78) rfl
                      have c1332 := sf_ma tw1307 (p := 14) rfl
                      have c1333 := sf_ma tw1307 (p := 79) rfl
                      have c1334 := sf_ma tw1307 (p := 15) rfl
                      have c1335 := sf_ma tw1307 (p := 80) rfl
                      have c1336 := sf_ma tw1307 (p := 16) rfl
                      have c1337 := sf_ma tw1307 (p := 81) rfl
                      have c1338 := sf_ma tw1307 (p := 17) rfl
                      have c1339 := sf_ma tw1307 (p := 82) rfl
                      have c1340 := sf_ma tw1307 (p := 18) rfl
                      have c1341 := sf_ma tw1307 (p := 83) rfl
                      have c1342 := sf_ma tw1307 (p := 19) rfl
                      have c1343 := sf_ma tw1307 (p := 84) rfl
                      have c1344 := sf_ma tw1307 (p := 20) rfl
                      have c1345 := sf_ma tw1307 (p := 85) rfl
                      have c1346 := sf_ma tw1307 (p := 24) rfl
                      have c1347 := sf_ma tw1307 (p := 86) rfl
                      have c1348 := sf_ma tw1307 (p := 25) rfl
                      have c1349 := sf_ma tw1307 (p := 87) rfl
                      have c1350 := sf_ma tw1307 (p := 23) rfl
                      have c1351 := sf_ma tw1307 (p := 88) rfl
                      have c1352 := sf_ma tw1307 (p := 26) rfl
                      have c1353 := sf_ma tw1307 (p := 89) rfl
                      have c1354 := sf_ma tw1307 (p := 27) rfl
                      have c1355 := sf_ma tw1307 (p := 90) rfl
                      have c1356 := sf_ma tw1307 (p := 36) rfl
                      have c1357 := sf_ma tw1307 (p := 102) rfl
                      have c1358 := sf_ma tw1307 (p := 37) rfl
                      have c1359 := sf_ma tw1307 (p := 103) rfl
                      have c1360 := sf_mf tw1307 (p := 60) (j := 0) rfl
                      have c1361 := sf_ma tw1307 (p := 61) rfl
                      have c1362 := sf_ma tw1307 (p := 62) rfl
                      have c1363 := sf_ma tw1307 (p := 63) rfl
                      have c1364 := sf_ma tw1307 (p := 65) rfl
                      have c1365 := sf_ma tw1307 (p := 66) rfl
                      have c1366 := sf_mf tw1307 (p := 71) (j := 56) rfl
                      have c1367 := sf_ma tw1307 (p := 121) rfl
                      have c1368 := sf_ma tw1307 (p := 122) rfl
                      have c1369 := sf_ma tw1307 (p := 123) rfl
                      have c1370 := sf_ma tw1307 (p := 125) rfl
                      have c1371 := sf_ma tw1307 (p := 126) rfl
                      have c1372 := sf_ma tw1307 (p := 38) rfl
                      have c1373 := sf_ma tw1307 (p := 40) rfl
                      have c1374 := sf_ma tw1307 (p := 41) rfl
                      have c1375 := sf_ma tw1307 (p := 42) rfl
                      have c1376 := sf_ma tw1307 (p := 43) rfl
                      have c1377 := sf_ma tw1307 (p := 44) rfl
                      have c1378 := sf_ma tw1307 (p := 47) rfl
                      have c1379 := sf_ma tw1307 (p := 104) rfl
                      have c1380 := sf_ma tw1307 (p := 106) rfl
                      have c1381 := sf_ma tw1307 (p := 113) rfl
                      have c1382 := sf_ma tw1307 (p := 107) rfl
                      have c1383 := sf_ma tw1307 (p := 108) rfl
                      have c1384 := sf_ma tw1307 (p := 110) rfl
                      have c1385 := sf_ma tw1307 (p := 109) rfl
                      have c1386 := sf_mf tw1307 (p := 71) (j := 41) rfl
                      have c1387 := sf_ma tw1307 (p := 68) rfl
                      have c1388 := sf_ma tw1307 (p := 69) rfl
                      have c1389 := sf_ma tw1307 (p := 70) rfl
                      have c1390 := sf_ma tw1307 (p := 127) rfl
                      have c1391 := sf_ma tw1307 (p := 128) rfl
                      have c1392 := sf_ma tw1307 (p := 129) rfl
                      refine sf_istore (L' := [(0, .inl (.ref 100000)), (1, .inl (.ref 0)), (2, .inl (.ref 71)), (3, .inl (.ref 130)), (4, .inl (.int x4))]) rfl ?_
                      refine sf_aload rfl ?_
                      refine sf_aload rfl ?_
                      refine sf_iload rfl ?_
                      refine sf_iconst sf_c1 (fun z1393 ez1393 => ?_)
                      refine sf_iadd (by omega) (fun v1394 ev1394 => ?_)
                      refine sf_sldk (x := x4) (k := 1) (by omega) (by omega) (by omega) ?_
                      clear ev1394 ez1393
                      refine sf_callv2 rfl (by omega) (by omega) ?_
                      refine sf_rv Iw1307 rfl ?_
                      refine sc_M_quotaLeft Iw1307  (fun v1395 w1396 Iw1396 tw1396 => ?_)
                      have c1398 := sf_mf tw1396 (p := 1) (j := 0) rfl
                      have c1399 := sf_mf tw1396 (p := 71) (j := 1) rfl
                      have c1400 := sf_mf tw1396 (p := 1) (j := 5) rfl
                      have c1401 := sf_mf tw1396 (p := 71) (j := 5) rfl
                      have c1402 := sf_mf tw1396 (p := 13) (j := 1) rfl
                      have c1403 := sf_mf tw1396 (p := 71) (j := 10) rfl
                      have c1404 := sf_mf tw1396 (p := 21) (j := 1) rfl
                      have c1405 := sf_mf tw1396 (p := 71) (j := 18) rfl
                      have c1406 := sf_mf tw1396 (p := 35) (j := 0) rfl
                      have c1407 := sf_mf tw1396 (p := 71) (j := 35) rfl
                      have c1408 := sf_ma tw1396 (p := 3) rfl
                      have c1409 := sf_ma tw1396 (p := 72) rfl
                      have c1410 := sf_mg tw1396 (p := 10) rfl
                      have c1411 := sf_ma tw1396 (p := 93) rfl
                      have c1412 := sf_mL tw1396 (p := 130) rfl
                      have c1413 := sf_ma tw1396 (p := 2) rfl
                      have c1414 := sf_ma tw1396 (p := 6) rfl
                      have c1415 := sf_ma tw1396 (p := 75) rfl
                      have c1416 := sf_ma tw1396 (p := 7) rfl
                      have c1417 := sf_ma tw1396 (p := 76) rfl
                      have c1418 := sf_ma tw1396 (p := 8) rfl
                      have c1419 := sf_ma tw1396 (p := 77) rfl
                      have c1420 := sf_ma tw1396 (p := 9) rfl
                      have c1421 := sf_ma tw1396 (p := 78) rfl
                      have c1422 := sf_ma tw1396 (p := 14) rfl
                      have c1423 := sf_ma tw1396 (p := 79) rfl
                      have c1424 := sf_ma tw1396 (p := 15) rfl
                      have c1425 := sf_ma tw1396 (p := 80) rfl
                      have c1426 := sf_ma tw1396 (p := 16) rfl
                      have c1427 := sf_ma tw1396 (p := 81) rfl
                      have c1428 := sf_ma tw1396 (p := 17) rfl
                      have c1429 := sf_ma tw1396 (p := 82) rfl
                      have c1430 := sf_ma tw1396 (p := 18) rfl
                      have c1431 := sf_ma tw1396 (p := 83) rfl
                      have c1432 := sf_ma tw1396 (p := 19) rfl
                      have c1433 := sf_ma tw1396 (p := 84) rfl
                      have c1434 := sf_ma tw1396 (p := 20) rfl
                      have c1435 := sf_ma tw1396 (p := 85) rfl
                      have c1436 := sf_ma tw1396 (p := 24) rfl
                      have c1437 := sf_ma tw1396 (p := 86) rfl
                      have c1438 := sf_ma tw1396 (p := 25) rfl
                      have c1439 := sf_ma tw1396 (p := 87) rfl
                      have c1440 := sf_ma tw1396 (p := 23) rfl
                      have c1441 := sf_ma tw1396 (p := 88) rfl
                      have c1442 := sf_ma tw1396 (p := 26) rfl
                      have c1443 := sf_ma tw1396 (p := 89) rfl
                      have c1444 := sf_ma tw1396 (p := 27) rfl
                      have c1445 := sf_ma tw1396 (p := 90) rfl
                      have c1446 := sf_ma tw1396 (p := 36) rfl
                      have c1447 := sf_ma tw1396 (p := 102) rfl
                      have c1448 := sf_ma tw1396 (p := 37) rfl
                      have c1449 := sf_ma tw1396 (p := 103) rfl
                      have c1450 := sf_mf tw1396 (p := 60) (j := 0) rfl
                      have c1451 := sf_ma tw1396 (p := 61) rfl
                      have c1452 := sf_ma tw1396 (p := 62) rfl
                      have c1453 := sf_ma tw1396 (p := 63) rfl
                      have c1454 := sf_ma tw1396 (p := 65) rfl
                      have c1455 := sf_ma tw1396 (p := 66) rfl
                      have c1456 := sf_mf tw1396 (p := 71) (j := 56) rfl
                      have c1457 := sf_ma tw1396 (p := 121) rfl
                      have c1458 := sf_ma tw1396 (p := 122) rfl
                      have c1459 := sf_ma tw1396 (p := 123) rfl
                      have c1460 := sf_ma tw1396 (p := 125) rfl
                      have c1461 := sf_ma tw1396 (p := 126) rfl
                      have c1462 := sf_ma tw1396 (p := 38) rfl
                      have c1463 := sf_ma tw1396 (p := 40) rfl
                      have c1464 := sf_ma tw1396 (p := 41) rfl
                      have c1465 := sf_ma tw1396 (p := 42) rfl
                      have c1466 := sf_ma tw1396 (p := 43) rfl
                      have c1467 := sf_ma tw1396 (p := 44) rfl
                      have c1468 := sf_ma tw1396 (p := 47) rfl
                      have c1469 := sf_ma tw1396 (p := 104) rfl
                      have c1470 := sf_ma tw1396 (p := 106) rfl
                      have c1471 := sf_ma tw1396 (p := 113) rfl
                      have c1472 := sf_ma tw1396 (p := 107) rfl
                      have c1473 := sf_ma tw1396 (p := 108) rfl
                      have c1474 := sf_ma tw1396 (p := 110) rfl
                      have c1475 := sf_ma tw1396 (p := 109) rfl
                      have c1476 := sf_mf tw1396 (p := 71) (j := 41) rfl
                      have c1477 := sf_ma tw1396 (p := 68) rfl
                      have c1478 := sf_ma tw1396 (p := 69) rfl
                      have c1479 := sf_ma tw1396 (p := 70) rfl
                      have c1480 := sf_ma tw1396 (p := 127) rfl
                      have c1481 := sf_ma tw1396 (p := 128) rfl
                      have c1482 := sf_ma tw1396 (p := 129) rfl
                      refine sf_istore (L' := [(5, .inl (.int v1306)), (0, .inl (.ref 100000)), (1, .inl (.ref 0)), (2, .inl (.ref 71)), (3, .inl (.ref 130)), (4, .inl (.int x4))]) rfl ?_
                      show kt_W_law_1421 N xs K _ _ _ _ _
                      refine sf_iinc (L' := [(6, .inl (.int v1395)), (5, .inl (.int v1306)), (0, .inl (.ref 100000)), (1, .inl (.ref 0)), (2, .inl (.ref 71)), (3, .inl (.ref 130))]) (x := x4) sf_c8 rfl rfl (by omega) (fun v1483 ev1483 => ?_)
                      refine sf_can (L' := [(0, .inl (.ref 100000)), (1, .inl (.ref 0)), (2, .inl (.ref 71)), (3, .inl (.ref 130)), (4, .inl (.int v1483))]) rfl ?_
                      exact ih _ _ _ _ Iw1396 (by omega) (by omega) (by omega) (by omega) (by rw [c1398, c1309]; rw [c1399, c1310]; rw [c1400, c1311]; rw [c1401, c1312]; rw [c1402, c1313]; rw [c1403, c1314]; rw [c1404, c1315]; rw [c1405, c1316]; rw [c1406, c1317]; rw [c1407, c1318]; omega) (by rw [c1408, c1319]; rw [c1409, c1320]; rw [c1399, c1310]; first | exact f_1 | exact hJ) (by rw [c1410, c1321]; rw [c1411, c1322]; first | exact f_2 | exact hK2) (by rw [c1413, c1323]; rw [c1409, c1320]; rw [c1399, c1310]; first | exact f_3 | exact hQ2) (by rw [c1414, c1324]; rw [c1415, c1325]; rw [c1401, c1312]; first | exact f_4 | exact hQ6) (by rw [c1416, c1326]; rw [c1417, c1327]; rw [c1401, c1312]; first | exact f_5 | exact hQ7) (by rw [c1418, c1328]; rw [c1419, c1329]; rw [c1401, c1312]; first | exact f_6 | exact hQ8) (by rw [c1420, c1330]; rw [c1421, c1331]; rw [c1401, c1312]; first | exact f_7 | exact hQ9) (by rw [c1422, c1332]; rw [c1423, c1333]; rw [c1403, c1314]; first | exact f_8 | exact hQ14) (by rw [c1424, c1334]; rw [c1425, c1335]; rw [c1403, c1314]; first | exact f_9 | exact hQ15) (by rw [c1426, c1336]; rw [c1427, c1337]; rw [c1403, c1314]; first | exact f_10 | exact hQ16) (by rw [c1428, c1338]; rw [c1429, c1339]; rw [c1403, c1314]; first | exact f_11 | exact hQ17) (by rw [c1430, c1340]; rw [c1431, c1341]; rw [c1403, c1314]; first | exact f_12 | exact hQ18) (by rw [c1432, c1342]; rw [c1433, c1343]; rw [c1403, c1314]; first | exact f_13 | exact hQ19) (by rw [c1434, c1344]; rw [c1435, c1345]; rw [c1403, c1314]; first | exact f_14 | exact hQ20) (by rw [c1436, c1346]; rw [c1437, c1347]; rw [c1405, c1316]; first | exact f_15 | exact hQ24) (by rw [c1438, c1348]; rw [c1439, c1349]; rw [c1405, c1316]; first | exact f_16 | exact hQ25) (by rw [c1440, c1350]; rw [c1441, c1351]; rw [c1405, c1316]; first | exact f_17 | exact hQ23) (by rw [c1442, c1352]; rw [c1443, c1353]; rw [c1405, c1316]; first | exact f_18 | exact hQ26) (by rw [c1444, c1354]; rw [c1445, c1355]; rw [c1405, c1316]; first | exact f_19 | exact hQ27) (by rw [c1446, c1356]; rw [c1447, c1357]; rw [c1407, c1318]; first | exact f_20 | exact hQ36) (by rw [c1448, c1358]; rw [c1449, c1359]; rw [c1407, c1318]; first | exact f_21 | exact hQ37) (by rw [c1450, c1360]; rw [c1456, c1366]; rw [c1451, c1361]; rw [c1452, c1362]; rw [c1453, c1363]; rw [c1454, c1364]; rw [c1455, c1365]; rw [c1457, c1367]; rw [c1458, c1368]; rw [c1459, c1369]; rw [c1460, c1370]; rw [c1461, c1371]; exact f_22) (by rw [c1462, c1372]; rw [c1469, c1379]; rw [c1463, c1373]; rw [c1470, c1380]; rw [c1465, c1375]; rw [c1472, c1382]; rw [c1466, c1376]; rw [c1473, c1383]; rw [c1468, c1378]; rw [c1475, c1385]; rw [c1467, c1377]; rw [c1474, c1384]; exact f_23) (by rw [c1463, c1373]; rw [c1462, c1372]; rw [c1464, c1374]; rw [c1471, c1381]; exact f_24) (by rw [c1447, c1357]; rw [c1449, c1359]; rw [c1470, c1380]; rw [c1407, c1318]; rw [c1476, c1386]; exact f_25) (by rw [c1470, c1380]; rw [c1407, c1318]; exact f_26) (by rw [c1477, c1387]; rw [c1480, c1390]; rw [c1478, c1388]; rw [c1481, c1391]; rw [c1479, c1389]; rw [c1482, c1392]; exact f_27) (by omega)
                    · clear h1303
                      refine sf_sw1 sf_c8 (fun h1484 => ?_) (fun h1484 => ?_)
                      · refine sf_aload rfl ?_
                        refine sf_aload rfl ?_
                        refine sf_iload rfl ?_
                        refine sf_iconst sf_c1 (fun z1485 ez1485 => ?_)
                        refine sf_iadd (by omega) (fun v1486 ev1486 => ?_)
                        refine sf_sldk (x := x4) (k := 1) (by omega) (by omega) (by omega) ?_
                        clear ev1486 ez1485
                        refine sf_aload rfl ?_
                        refine sf_iload rfl ?_
                        refine sf_iconst sf_c2 (fun z1487 ez1487 => ?_)
                        refine sf_iadd (by omega) (fun v1488 ev1488 => ?_)
                        refine sf_sldk (x := x4) (k := 2) (by omega) (by omega) (by omega) ?_
                        clear ev1488 ez1487
                        refine sf_aload rfl ?_
                        refine sf_iload rfl ?_
                        refine sf_iconst sf_c3 (fun z1489 ez1489 => ?_)
                        refine sf_iadd (by omega) (fun v1490 ev1490 => ?_)
                        refine sf_sldk (x := x4) (k := 3) (by omega) (by omega) (by omega) ?_
                        clear ev1490 ez1489
                        refine sf_aload rfl ?_
                        refine sf_iload rfl ?_
                        refine sf_iconst sf_c4 (fun z1491 ez1491 => ?_)
                        refine sf_iadd (by omega) (fun v1492 ev1492 => ?_)
                        refine sf_sldk (x := x4) (k := 4) (by omega) (by omega) (by omega) ?_
                        clear ev1492 ez1491
                        refine sf_aload rfl ?_
                        refine sf_callv6 rfl (by omega) (by omega) ?_
                        refine sc_W_part_0_130 I_w  (fun v1493 w1494 Iw1494 tw1494 lv1493 uv1493 => ?_)
                        have c1496 := sf_mf tw1494 (p := 1) (j := 0) rfl
                        have c1497 := sf_mf tw1494 (p := 71) (j := 1) rfl
                        have c1498 := sf_mf tw1494 (p := 1) (j := 5) rfl
                        have c1499 := sf_mf tw1494 (p := 71) (j := 5) rfl
                        have c1500 := sf_mf tw1494 (p := 13) (j := 1) rfl
                        have c1501 := sf_mf tw1494 (p := 71) (j := 10) rfl
                        have c1502 := sf_mf tw1494 (p := 21) (j := 1) rfl
                        have c1503 := sf_mf tw1494 (p := 71) (j := 18) rfl
                        have c1504 := sf_mf tw1494 (p := 35) (j := 0) rfl
                        have c1505 := sf_mf tw1494 (p := 71) (j := 35) rfl
                        have c1506 := sf_ma tw1494 (p := 3) rfl
                        have c1507 := sf_ma tw1494 (p := 72) rfl
                        have c1508 := sf_mg tw1494 (p := 10) rfl
                        have c1509 := sf_ma tw1494 (p := 93) rfl
                        have c1510 := sf_ma tw1494 (p := 2) rfl
                        have c1511 := sf_ma tw1494 (p := 6) rfl
                        have c1512 := sf_ma tw1494 (p := 75) rfl
                        have c1513 := sf_ma tw1494 (p := 7) rfl
                        have c1514 := sf_ma tw1494 (p := 76) rfl
                        have c1515 := sf_ma tw1494 (p := 8) rfl
                        have c1516 := sf_ma tw1494 (p := 77) rfl
                        have c1517 := sf_ma tw1494 (p := 9) rfl
                        have c1518 := sf_ma tw1494 (p := 78) rfl
                        have c1519 := sf_ma tw1494 (p := 14) rfl
                        have c1520 := sf_ma tw1494 (p := 79) rfl
                        have c1521 := sf_ma tw1494 (p := 15) rfl
                        have c1522 := sf_ma tw1494 (p := 80) rfl
                        have c1523 := sf_ma tw1494 (p := 16) rfl
                        have c1524 := sf_ma tw1494 (p := 81) rfl
                        have c1525 := sf_ma tw1494 (p := 17) rfl
                        have c1526 := sf_ma tw1494 (p := 82) rfl
                        have c1527 := sf_ma tw1494 (p := 18) rfl
                        have c1528 := sf_ma tw1494 (p := 83) rfl
                        have c1529 := sf_ma tw1494 (p := 19) rfl
                        have c1530 := sf_ma tw1494 (p := 84) rfl
                        have c1531 := sf_ma tw1494 (p := 20) rfl
                        have c1532 := sf_ma tw1494 (p := 85) rfl
                        have c1533 := sf_ma tw1494 (p := 24) rfl
                        have c1534 := sf_ma tw1494 (p := 86) rfl
                        have c1535 := sf_ma tw1494 (p := 25) rfl
                        have c1536 := sf_ma tw1494 (p := 87) rfl
                        have c1537 := sf_ma tw1494 (p := 23) rfl
                        have c1538 := sf_ma tw1494 (p := 88) rfl
                        have c1539 := sf_ma tw1494 (p := 26) rfl
                        have c1540 := sf_ma tw1494 (p := 89) rfl
                        have c1541 := sf_ma tw1494 (p := 27) rfl
                        have c1542 := sf_ma tw1494 (p := 90) rfl
                        have c1543 := sf_ma tw1494 (p := 36) rfl
                        have c1544 := sf_ma tw1494 (p := 102) rfl
                        have c1545 := sf_ma tw1494 (p := 37) rfl
                        have c1546 := sf_ma tw1494 (p := 103) rfl
                        have c1547 := sf_mf tw1494 (p := 60) (j := 0) rfl
                        have c1548 := sf_ma tw1494 (p := 61) rfl
                        have c1549 := sf_ma tw1494 (p := 62) rfl
                        have c1550 := sf_ma tw1494 (p := 63) rfl
                        have c1551 := sf_ma tw1494 (p := 65) rfl
                        have c1552 := sf_ma tw1494 (p := 66) rfl
                        have c1553 := sf_mf tw1494 (p := 71) (j := 56) rfl
                        have c1554 := sf_ma tw1494 (p := 121) rfl
                        have c1555 := sf_ma tw1494 (p := 122) rfl
                        have c1556 := sf_ma tw1494 (p := 123) rfl
                        have c1557 := sf_ma tw1494 (p := 125) rfl
                        have c1558 := sf_ma tw1494 (p := 126) rfl
                        have c1559 := sf_ma tw1494 (p := 38) rfl
                        have c1560 := sf_ma tw1494 (p := 40) rfl
                        have c1561 := sf_ma tw1494 (p := 41) rfl
                        have c1562 := sf_ma tw1494 (p := 42) rfl
                        have c1563 := sf_ma tw1494 (p := 43) rfl
                        have c1564 := sf_ma tw1494 (p := 44) rfl
                        have c1565 := sf_ma tw1494 (p := 47) rfl
                        have c1566 := sf_ma tw1494 (p := 104) rfl
                        have c1567 := sf_ma tw1494 (p := 106) rfl
                        have c1568 := sf_ma tw1494 (p := 113) rfl
                        have c1569 := sf_ma tw1494 (p := 107) rfl
                        have c1570 := sf_ma tw1494 (p := 108) rfl
                        have c1571 := sf_ma tw1494 (p := 110) rfl
                        have c1572 := sf_ma tw1494 (p := 109) rfl
                        have c1573 := sf_mf tw1494 (p := 71) (j := 41) rfl
                        have c1574 := sf_ma tw1494 (p := 68) rfl
                        have c1575 := sf_ma tw1494 (p := 69) rfl
                        have c1576 := sf_ma tw1494 (p := 70) rfl
                        have c1577 := sf_ma tw1494 (p := 127) rfl
                        have c1578 := sf_ma tw1494 (p := 128) rfl
                        have c1579 := sf_ma tw1494 (p := 129) rfl
                        refine sf_istore (L' := [(0, .inl (.ref 100000)), (1, .inl (.ref 0)), (2, .inl (.ref 71)), (3, .inl (.ref 130)), (4, .inl (.int x4))]) rfl ?_
                        refine sf_aload rfl ?_
                        refine sf_aload rfl ?_
                        refine sf_iload rfl ?_
                        refine sf_iconst sf_c1 (fun z1580 ez1580 => ?_)
                        refine sf_iadd (by omega) (fun v1581 ev1581 => ?_)
                        refine sf_sldk (x := x4) (k := 1) (by omega) (by omega) (by omega) ?_
                        clear ev1581 ez1580
                        refine sf_aload rfl ?_
                        refine sf_iload rfl ?_
                        refine sf_iconst sf_c2 (fun z1582 ez1582 => ?_)
                        refine sf_iadd (by omega) (fun v1583 ev1583 => ?_)
                        refine sf_sldk (x := x4) (k := 2) (by omega) (by omega) (by omega) ?_
                        clear ev1583 ez1582
                        refine sf_aload rfl ?_
                        refine sf_iload rfl ?_
                        refine sf_iconst sf_c3 (fun z1584 ez1584 => ?_)
                        refine sf_iadd (by omega) (fun v1585 ev1585 => ?_)
                        refine sf_sldk (x := x4) (k := 3) (by omega) (by omega) (by omega) ?_
                        clear ev1585 ez1584
                        refine sf_aload rfl ?_
                        refine sf_iload rfl ?_
                        refine sf_iconst sf_c4 (fun z1586 ez1586 => ?_)
                        refine sf_iadd (by omega) (fun v1587 ev1587 => ?_)
                        refine sf_sldk (x := x4) (k := 4) (by omega) (by omega) (by omega) ?_
                        clear ev1587 ez1586
                        refine sf_callv5 rfl (by omega) (by omega) ?_
                        refine sf_rv Iw1494 rfl ?_
                        refine sc_M_part Iw1494  (fun v1588 w1589 Iw1589 tw1589 lv1588 uv1588 => ?_)
                        have c1591 := sf_mf tw1589 (p := 1) (j := 0) rfl
                        have c1592 := sf_mf tw1589 (p := 71) (j := 1) rfl
                        have c1593 := sf_mf tw1589 (p := 1) (j := 5) rfl
                        have c1594 := sf_mf tw1589 (p := 71) (j := 5) rfl
                        have c1595 := sf_mf tw1589 (p := 13) (j := 1) rfl
                        have c1596 := sf_mf tw1589 (p := 71) (j := 10) rfl
                        have c1597 := sf_mf tw1589 (p := 21) (j := 1) rfl
                        have c1598 := sf_mf tw1589 (p := 71) (j := 18) rfl
                        have c1599 := sf_mf tw1589 (p := 35) (j := 0) rfl
                        have c1600 := sf_mf tw1589 (p := 71) (j := 35) rfl
                        have c1601 := sf_ma tw1589 (p := 3) rfl
                        have c1602 := sf_ma tw1589 (p := 72) rfl
                        have c1603 := sf_mg tw1589 (p := 10) rfl
                        have c1604 := sf_ma tw1589 (p := 93) rfl
                        have c1605 := sf_mL tw1589 (p := 130) rfl
                        have c1606 := sf_ma tw1589 (p := 2) rfl
                        have c1607 := sf_ma tw1589 (p := 6) rfl
                        have c1608 := sf_ma tw1589 (p := 75) rfl
                        have c1609 := sf_ma tw1589 (p := 7) rfl
                        have c1610 := sf_ma tw1589 (p := 76) rfl
                        have c1611 := sf_ma tw1589 (p := 8) rfl
                        have c1612 := sf_ma tw1589 (p := 77) rfl
                        have c1613 := sf_ma tw1589 (p := 9) rfl
                        have c1614 := sf_ma tw1589 (p := 78) rfl
                        have c1615 := sf_ma tw1589 (p := 14) rfl
                        have c1616 := sf_ma tw1589 (p := 79) rfl
                        have c1617 := sf_ma tw1589 (p := 15) rfl
                        have c1618 := sf_ma tw1589 (p := 80) rfl
                        have c1619 := sf_ma tw1589 (p := 16) rfl
                        have c1620 := sf_ma tw1589 (p := 81) rfl
                        have c1621 := sf_ma tw1589 (p := 17) rfl
                        have c1622 := sf_ma tw1589 (p := 82) rfl
                        have c1623 := sf_ma tw1589 (p := 18) rfl
                        have c1624 := sf_ma tw1589 (p := 83) rfl
                        have c1625 := sf_ma tw1589 (p := 19) rfl
                        have c1626 := sf_ma tw1589 (p := 84) rfl
                        have c1627 := sf_ma tw1589 (p := 20) rfl
                        have c1628 := sf_ma tw1589 (p := 85) rfl
                        have c1629 := sf_ma tw1589 (p := 24) rfl
                        have c1630 := sf_ma tw1589 (p := 86) rfl
                        have c1631 := sf_ma tw1589 (p := 25) rfl
                        have c1632 := sf_ma tw1589 (p := 87) rfl
                        have c1633 := sf_ma tw1589 (p := 23) rfl
                        have c1634 := sf_ma tw1589 (p := 88) rfl
                        have c1635 := sf_ma tw1589 (p := 26) rfl
                        have c1636 := sf_ma tw1589 (p := 89) rfl
                        have c1637 := sf_ma tw1589 (p := 27) rfl
                        have c1638 := sf_ma tw1589 (p := 90) rfl
                        have c1639 := sf_ma tw1589 (p := 36) rfl
                        have c1640 := sf_ma tw1589 (p := 102) rfl
                        have c1641 := sf_ma tw1589 (p := 37) rfl
                        have c1642 := sf_ma tw1589 (p := 103) rfl
                        have c1643 := sf_mf tw1589 (p := 60) (j := 0) rfl
                        have c1644 := sf_ma tw1589 (p := 61) rfl
                        have c1645 := sf_ma tw1589 (p := 62) rfl
                        have c1646 := sf_ma tw1589 (p := 63) rfl
                        have c1647 := sf_ma tw1589 (p := 65) rfl
                        have c1648 := sf_ma tw1589 (p := 66) rfl
                        have c1649 := sf_mf tw1589 (p := 71) (j := 56) rfl
                        have c1650 := sf_ma tw1589 (p := 121) rfl
                        have c1651 := sf_ma tw1589 (p := 122) rfl
                        have c1652 := sf_ma tw1589 (p := 123) rfl
                        have c1653 := sf_ma tw1589 (p := 125) rfl
                        have c1654 := sf_ma tw1589 (p := 126) rfl
                        have c1655 := sf_ma tw1589 (p := 38) rfl
                        have c1656 := sf_ma tw1589 (p := 40) rfl
                        have c1657 := sf_ma tw1589 (p := 41) rfl
                        have c1658 := sf_ma tw1589 (p := 42) rfl
                        have c1659 := sf_ma tw1589 (p := 43) rfl
                        have c1660 := sf_ma tw1589 (p := 44) rfl
                        have c1661 := sf_ma tw1589 (p := 47) rfl
                        have c1662 := sf_ma tw1589 (p := 104) rfl
                        have c1663 := sf_ma tw1589 (p := 106) rfl
                        have c1664 := sf_ma tw1589 (p := 113) rfl
                        have c1665 := sf_ma tw1589 (p := 107) rfl
                        have c1666 := sf_ma tw1589 (p := 108) rfl
                        have c1667 := sf_ma tw1589 (p := 110) rfl
                        have c1668 := sf_ma tw1589 (p := 109) rfl
                        have c1669 := sf_mf tw1589 (p := 71) (j := 41) rfl
                        have c1670 := sf_ma tw1589 (p := 68) rfl
                        have c1671 := sf_ma tw1589 (p := 69) rfl
                        have c1672 := sf_ma tw1589 (p := 70) rfl
                        have c1673 := sf_ma tw1589 (p := 127) rfl
                        have c1674 := sf_ma tw1589 (p := 128) rfl
                        have c1675 := sf_ma tw1589 (p := 129) rfl
                        refine sf_istore (L' := [(5, .inl (.int v1493)), (0, .inl (.ref 100000)), (1, .inl (.ref 0)), (2, .inl (.ref 71)), (3, .inl (.ref 130)), (4, .inl (.int x4))]) rfl ?_
                        show kt_W_law_1421 N xs K _ _ _ _ _
                        refine sf_iinc (L' := [(6, .inl (.int v1588)), (5, .inl (.int v1493)), (0, .inl (.ref 100000)), (1, .inl (.ref 0)), (2, .inl (.ref 71)), (3, .inl (.ref 130))]) (x := x4) sf_c8 rfl rfl (by omega) (fun v1676 ev1676 => ?_)
                        refine sf_can (L' := [(0, .inl (.ref 100000)), (1, .inl (.ref 0)), (2, .inl (.ref 71)), (3, .inl (.ref 130)), (4, .inl (.int v1676))]) rfl ?_
                        exact ih _ _ _ _ Iw1589 (by omega) (by omega) (by omega) (by omega) (by rw [c1591, c1496]; rw [c1592, c1497]; rw [c1593, c1498]; rw [c1594, c1499]; rw [c1595, c1500]; rw [c1596, c1501]; rw [c1597, c1502]; rw [c1598, c1503]; rw [c1599, c1504]; rw [c1600, c1505]; omega) (by rw [c1601, c1506]; rw [c1602, c1507]; rw [c1592, c1497]; first | exact f_1 | exact hJ) (by rw [c1603, c1508]; rw [c1604, c1509]; first | exact f_2 | exact hK2) (by rw [c1606, c1510]; rw [c1602, c1507]; rw [c1592, c1497]; first | exact f_3 | exact hQ2) (by rw [c1607, c1511]; rw [c1608, c1512]; rw [c1594, c1499]; first | exact f_4 | exact hQ6) (by rw [c1609, c1513]; rw [c1610, c1514]; rw [c1594, c1499]; first | exact f_5 | exact hQ7) (by rw [c1611, c1515]; rw [c1612, c1516]; rw [c1594, c1499]; first | exact f_6 | exact hQ8) (by rw [c1613, c1517]; rw [c1614, c1518]; rw [c1594, c1499]; first | exact f_7 | exact hQ9) (by rw [c1615, c1519]; rw [c1616, c1520]; rw [c1596, c1501]; first | exact f_8 | exact hQ14) (by rw [c1617, c1521]; rw [c1618, c1522]; rw [c1596, c1501]; first | exact f_9 | exact hQ15) (by rw [c1619, c1523]; rw [c1620, c1524]; rw [c1596, c1501]; first | exact f_10 | exact hQ16) (by rw [c1621, c1525]; rw [c1622, c1526]; rw [c1596, c1501]; first | exact f_11 | exact hQ17) (by rw [c1623, c1527]; rw [c1624, c1528]; rw [c1596, c1501]; first | exact f_12 | exact hQ18) (by rw [c1625, c1529]; rw [c1626, c1530]; rw [c1596, c1501]; first | exact f_13 | exact hQ19) (by rw [c1627, c1531]; rw [c1628, c1532]; rw [c1596, c1501]; first | exact f_14 | exact hQ20) (by rw [c1629, c1533]; rw [c1630, c1534]; rw [c1598, c1503]; first | exact f_15 | exact hQ24) (by rw [c1631, c1535]; rw [c1632, c1536]; rw [c1598, c1503]; first | exact f_16 | exact hQ25) (by rw [c1633, c1537]; rw [c1634, c1538]; rw [c1598, c1503]; first | exact f_17 | exact hQ23) (by rw [c1635, c1539]; rw [c1636, c1540]; rw [c1598, c1503]; first | exact f_18 | exact hQ26) (by rw [c1637, c1541]; rw [c1638, c1542]; rw [c1598, c1503]; first | exact f_19 | exact hQ27) (by rw [c1639, c1543]; rw [c1640, c1544]; rw [c1600, c1505]; first | exact f_20 | exact hQ36) (by rw [c1641, c1545]; rw [c1642, c1546]; rw [c1600, c1505]; first | exact f_21 | exact hQ37) (by rw [c1643, c1547]; rw [c1649, c1553]; rw [c1644, c1548]; rw [c1645, c1549]; rw [c1646, c1550]; rw [c1647, c1551]; rw [c1648, c1552]; rw [c1650, c1554]; rw [c1651, c1555]; rw [c1652, c1556]; rw [c1653, c1557]; rw [c1654, c1558]; exact f_22) (by rw [c1655, c1559]; rw [c1662, c1566]; rw [c1656, c1560]; rw [c1663, c1567]; rw [c1658, c1562]; rw [c1665, c1569]; rw [c1659, c1563]; rw [c1666, c1570]; rw [c1661, c1565]; rw [c1668, c1572]; rw [c1660, c1564]; rw [c1667, c1571]; exact f_23) (by rw [c1656, c1560]; rw [c1655, c1559]; rw [c1657, c1561]; rw [c1664, c1568]; exact f_24) (by rw [c1640, c1544]; rw [c1642, c1546]; rw [c1663, c1567]; rw [c1600, c1505]; rw [c1669, c1573]; exact f_25) (by rw [c1663, c1567]; rw [c1600, c1505]; exact f_26) (by rw [c1670, c1574]; rw [c1673, c1577]; rw [c1671, c1575]; rw [c1674, c1578]; rw [c1672, c1576]; rw [c1675, c1579]; exact f_27) (by omega)
                      · clear h1484
                        refine sf_sw1 sf_c9 (fun h1677 => ?_) (fun h1677 => ?_)
                        · refine sf_aload rfl ?_
                          refine sf_aload rfl ?_
                          refine sf_iload rfl ?_
                          refine sf_iconst sf_c1 (fun z1678 ez1678 => ?_)
                          refine sf_iadd (by omega) (fun v1679 ev1679 => ?_)
                          refine sf_sldk (x := x4) (k := 1) (by omega) (by omega) (by omega) ?_
                          clear ev1679 ez1678
                          refine sf_aload rfl ?_
                          refine sf_iload rfl ?_
                          refine sf_iconst sf_c2 (fun z1680 ez1680 => ?_)
                          refine sf_iadd (by omega) (fun v1681 ev1681 => ?_)
                          refine sf_sldk (x := x4) (k := 2) (by omega) (by omega) (by omega) ?_
                          clear ev1681 ez1680
                          refine sf_callv3 rfl (by omega) (by omega) ?_
                          refine sc_W_zone_0 I_w  (fun v1682 w1683 Iw1683 tw1683 lv1682 uv1682 q1684_0 => ?_)
                          have c1685 := sf_mf tw1683 (p := 1) (j := 0) rfl
                          have c1686 := sf_mf tw1683 (p := 71) (j := 1) rfl
                          have c1687 := sf_mf tw1683 (p := 1) (j := 5) rfl
                          have c1688 := sf_mf tw1683 (p := 71) (j := 5) rfl
                          have c1689 := sf_mf tw1683 (p := 13) (j := 1) rfl
                          have c1690 := sf_mf tw1683 (p := 71) (j := 10) rfl
                          have c1691 := sf_mf tw1683 (p := 21) (j := 1) rfl
                          have c1692 := sf_mf tw1683 (p := 71) (j := 18) rfl
                          have c1693 := sf_mf tw1683 (p := 35) (j := 0) rfl
                          have c1694 := sf_mf tw1683 (p := 71) (j := 35) rfl
                          have c1695 := sf_ma tw1683 (p := 3) rfl
                          have c1696 := sf_ma tw1683 (p := 72) rfl
                          have c1697 := sf_mg tw1683 (p := 10) rfl
                          have c1698 := sf_ma tw1683 (p := 93) rfl
                          have c1699 := sf_mL tw1683 (p := 130) rfl
                          have c1700 := sf_ma tw1683 (p := 2) rfl
                          have c1701 := sf_ma tw1683 (p := 6) rfl
                          have c1702 := sf_ma tw1683 (p := 75) rfl
                          have c1703 := sf_ma tw1683 (p := 7) rfl
                          have c1704 := sf_ma tw1683 (p := 76) rfl
                          have c1705 := sf_ma tw1683 (p := 8) rfl
                          have c1706 := sf_ma tw1683 (p := 77) rfl
                          have c1707 := sf_ma tw1683 (p := 9) rfl
                          have c1708 := sf_ma tw1683 (p := 78) rfl
                          have c1709 := sf_ma tw1683 (p := 14) rfl
                          have c1710 := sf_ma tw1683 (p := 79) rfl
                          have c1711 := sf_ma tw1683 (p := 15) rfl
                          have c1712 := sf_ma tw1683 (p := 80) rfl
                          have c1713 := sf_ma tw1683 (p := 16) rfl
                          have c1714 := sf_ma tw1683 (p := 81) rfl
                          have c1715 := sf_ma tw1683 (p := 17) rfl
                          have c1716 := sf_ma tw1683 (p := 82) rfl
                          have c1717 := sf_ma tw1683 (p := 18) rfl
                          have c1718 := sf_ma tw1683 (p := 83) rfl
                          have c1719 := sf_ma tw1683 (p := 19) rfl
                          have c1720 := sf_ma tw1683 (p := 84) rfl
                          have c1721 := sf_ma tw1683 (p := 20) rfl
                          have c1722 := sf_ma tw1683 (p := 85) rfl
                          have c1723 := sf_ma tw1683 (p := 24) rfl
                          have c1724 := sf_ma tw1683 (p := 86) rfl
                          have c1725 := sf_ma tw1683 (p := 25) rfl
                          have c1726 := sf_ma tw1683 (p := 87) rfl
                          have c1727 := sf_ma tw1683 (p := 23) rfl
                          have c1728 := sf_ma tw1683 (p := 88) rfl
                          have c1729 := sf_ma tw1683 (p := 26) rfl
                          have c1730 := sf_ma tw1683 (p := 89) rfl
                          have c1731 := sf_ma tw1683 (p := 27) rfl
                          have c1732 := sf_ma tw1683 (p := 90) rfl
                          have c1733 := sf_ma tw1683 (p := 36) rfl
                          have c1734 := sf_ma tw1683 (p := 102) rfl
                          have c1735 := sf_ma tw1683 (p := 37) rfl
                          have c1736 := sf_ma tw1683 (p := 103) rfl
                          have c1737 := sf_mf tw1683 (p := 60) (j := 0) rfl
                          have c1738 := sf_ma tw1683 (p := 61) rfl
                          have c1739 := sf_ma tw1683 (p := 62) rfl
                          have c1740 := sf_ma tw1683 (p := 63) rfl
                          have c1741 := sf_ma tw1683 (p := 65) rfl
                          have c1742 := sf_ma tw1683 (p := 66) rfl
                          have c1743 := sf_mf tw1683 (p := 71) (j := 56) rfl
                          have c1744 := sf_ma tw1683 (p := 121) rfl
                          have c1745 := sf_ma tw1683 (p := 122) rfl
                          have c1746 := sf_ma tw1683 (p := 123) rfl
                          have c1747 := sf_ma tw1683 (p := 125) rfl
                          have c1748 := sf_ma tw1683 (p := 126) rfl
                          have c1749 := sf_ma tw1683 (p := 38) rfl
                          have c1750 := sf_ma tw1683 (p := 40) rfl
                          have c1751 := sf_ma tw1683 (p := 41) rfl
                          have c1752 := sf_ma tw1683 (p := 42) rfl
                          have c1753 := sf_ma tw1683 (p := 43) rfl
                          have c1754 := sf_ma tw1683 (p := 44) rfl
                          have c1755 := sf_ma tw1683 (p := 47) rfl
                          have c1756 := sf_ma tw1683 (p := 104) rfl
                          have c1757 := sf_ma tw1683 (p := 106) rfl
                          have c1758 := sf_ma tw1683 (p := 113) rfl
                          have c1759 := sf_ma tw1683 (p := 107) rfl
                          have c1760 := sf_ma tw1683 (p := 108) rfl
                          have c1761 := sf_ma tw1683 (p := 110) rfl
                          have c1762 := sf_ma tw1683 (p := 109) rfl
                          have c1763 := sf_mf tw1683 (p := 71) (j := 41) rfl
                          have c1764 := sf_ma tw1683 (p := 68) rfl
                          have c1765 := sf_ma tw1683 (p := 69) rfl
                          have c1766 := sf_ma tw1683 (p := 70) rfl
                          have c1767 := sf_ma tw1683 (p := 127) rfl
                          have c1768 := sf_ma tw1683 (p := 128) rfl
                          have c1769 := sf_ma tw1683 (p := 129) rfl
                          refine sf_istore (L' := [(0, .inl (.ref 100000)), (1, .inl (.ref 0)), (2, .inl (.ref 71)), (3, .inl (.ref 130)), (4, .inl (.int x4))]) rfl ?_
                          refine sf_aload rfl ?_
                          refine sf_aload rfl ?_
                          refine sf_iload rfl ?_
                          refine sf_iconst sf_c1 (fun z1770 ez1770 => ?_)
                          refine sf_iadd (by omega) (fun v1771 ev1771 => ?_)
                          refine sf_sldk (x := x4) (k := 1) (by omega) (by omega) (by omega) ?_
                          clear ev1771 ez1770
                          refine sf_aload rfl ?_
                          refine sf_iload rfl ?_
                          refine sf_iconst sf_c2 (fun z1772 ez1772 => ?_)
                          refine sf_iadd (by omega) (fun v1773 ev1773 => ?_)
                          refine sf_sldk (x := x4) (k := 2) (by omega) (by omega) (by omega) ?_
                          clear ev1773 ez1772
                          refine sf_callv3 rfl (by omega) (by omega) ?_
                          refine sf_rv Iw1683 rfl ?_
                          refine sc_M_zone Iw1683  (fun w1774 Iw1774 tw1774 q1775_0 => ?_)
                          have c1776 := sf_mf tw1774 (p := 1) (j := 0) rfl
                          have c1777 := sf_mf tw1774 (p := 71) (j := 1) rfl
                          have c1778 := sf_mf tw1774 (p := 1) (j := 5) rfl
                          have c1779 := sf_mf tw1774 (p := 71) (j := 5) rfl
                          have c1780 := sf_mf tw1774 (p := 13) (j := 1) rfl
                          have c1781 := sf_mf tw1774 (p := 71) (j := 10) rfl
                          have c1782 := sf_mf tw1774 (p := 21) (j := 1) rfl
                          have c1783 := sf_mf tw1774 (p := 71) (j := 18) rfl
                          have c1784 := sf_mf tw1774 (p := 35) (j := 0) rfl
                          have c1785 := sf_mf tw1774 (p := 71) (j := 35) rfl
                          have c1786 := sf_ma tw1774 (p := 3) rfl
                          have c1787 := sf_ma tw1774 (p := 72) rfl
                          have c1788 := sf_mg tw1774 (p := 10) rfl
                          have c1789 := sf_ma tw1774 (p := 93) rfl
                          have c1790 := sf_mL tw1774 (p := 130) rfl
                          have c1791 := sf_ma tw1774 (p := 2) rfl
                          have c1792 := sf_ma tw1774 (p := 6) rfl
                          have c1793 := sf_ma tw1774 (p := 75) rfl
                          have c1794 := sf_ma tw1774 (p := 7) rfl
                          have c1795 := sf_ma tw1774 (p := 76) rfl
                          have c1796 := sf_ma tw1774 (p := 8) rfl
                          have c1797 := sf_ma tw1774 (p := 77) rfl
                          have c1798 := sf_ma tw1774 (p := 9) rfl
                          have c1799 := sf_ma tw1774 (p := 78) rfl
                          have c1800 := sf_ma tw1774 (p := 14) rfl
                          have c1801 := sf_ma tw1774 (p := 79) rfl
                          have c1802 := sf_ma tw1774 (p := 15) rfl
                          have c1803 := sf_ma tw1774 (p := 80) rfl
                          have c1804 := sf_ma tw1774 (p := 16) rfl
                          have c1805 := sf_ma tw1774 (p := 81) rfl
                          have c1806 := sf_ma tw1774 (p := 17) rfl
                          have c1807 := sf_ma tw1774 (p := 82) rfl
                          have c1808 := sf_ma tw1774 (p := 18) rfl
                          have c1809 := sf_ma tw1774 (p := 83) rfl
                          have c1810 := sf_ma tw1774 (p := 19) rfl
                          have c1811 := sf_ma tw1774 (p := 84) rfl
                          have c1812 := sf_ma tw1774 (p := 20) rfl
                          have c1813 := sf_ma tw1774 (p := 85) rfl
                          have c1814 := sf_ma tw1774 (p := 24) rfl
                          have c1815 := sf_ma tw1774 (p := 86) rfl
                          have c1816 := sf_ma tw1774 (p := 25) rfl
                          have c1817 := sf_ma tw1774 (p := 87) rfl
                          have c1818 := sf_ma tw1774 (p := 23) rfl
                          have c1819 := sf_ma tw1774 (p := 88) rfl
                          have c1820 := sf_ma tw1774 (p := 26) rfl
                          have c1821 := sf_ma tw1774 (p := 89) rfl
                          have c1822 := sf_ma tw1774 (p := 27) rfl
                          have c1823 := sf_ma tw1774 (p := 90) rfl
                          have c1824 := sf_ma tw1774 (p := 36) rfl
                          have c1825 := sf_ma tw1774 (p := 102) rfl
                          have c1826 := sf_ma tw1774 (p := 37) rfl
                          have c1827 := sf_ma tw1774 (p := 103) rfl
                          have c1828 := sf_mf tw1774 (p := 60) (j := 0) rfl
                          have c1829 := sf_ma tw1774 (p := 61) rfl
                          have c1830 := sf_ma tw1774 (p := 62) rfl
                          have c1831 := sf_ma tw1774 (p := 63) rfl
                          have c1832 := sf_ma tw1774 (p := 65) rfl
                          have c1833 := sf_ma tw1774 (p := 66) rfl
                          have c1834 := sf_mf tw1774 (p := 71) (j := 56) rfl
                          have c1835 := sf_ma tw1774 (p := 121) rfl
                          have c1836 := sf_ma tw1774 (p := 122) rfl
                          have c1837 := sf_ma tw1774 (p := 123) rfl
                          have c1838 := sf_ma tw1774 (p := 125) rfl
                          have c1839 := sf_ma tw1774 (p := 126) rfl
                          have c1840 := sf_ma tw1774 (p := 38) rfl
                          have c1841 := sf_ma tw1774 (p := 40) rfl
                          have c1842 := sf_ma tw1774 (p := 41) rfl
                          have c1843 := sf_ma tw1774 (p := 42) rfl
                          have c1844 := sf_ma tw1774 (p := 43) rfl
                          have c1845 := sf_ma tw1774 (p := 44) rfl
                          have c1846 := sf_ma tw1774 (p := 47) rfl
                          have c1847 := sf_ma tw1774 (p := 104) rfl
                          have c1848 := sf_ma tw1774 (p := 106) rfl
                          have c1849 := sf_ma tw1774 (p := 113) rfl
                          have c1850 := sf_ma tw1774 (p := 107) rfl
                          have c1851 := sf_ma tw1774 (p := 108) rfl
                          have c1852 := sf_ma tw1774 (p := 110) rfl
                          have c1853 := sf_ma tw1774 (p := 109) rfl
                          have c1854 := sf_mf tw1774 (p := 71) (j := 41) rfl
                          have c1855 := sf_ma tw1774 (p := 68) rfl
                          have c1856 := sf_ma tw1774 (p := 69) rfl
                          have c1857 := sf_ma tw1774 (p := 70) rfl
                          have c1858 := sf_ma tw1774 (p := 127) rfl
                          have c1859 := sf_ma tw1774 (p := 128) rfl
                          have c1860 := sf_ma tw1774 (p := 129) rfl
                          show kt_W_law_1421 N xs K _ _ _ _ _
                          refine sf_iinc (L' := [(5, .inl (.int v1682)), (0, .inl (.ref 100000)), (1, .inl (.ref 0)), (2, .inl (.ref 71)), (3, .inl (.ref 130))]) (x := x4) sf_c8 rfl rfl (by omega) (fun v1861 ev1861 => ?_)
                          refine sf_can (L' := [(0, .inl (.ref 100000)), (1, .inl (.ref 0)), (2, .inl (.ref 71)), (3, .inl (.ref 130)), (4, .inl (.int v1861))]) rfl ?_
                          exact ih _ _ _ _ Iw1774 (by omega) (by omega) (by omega) (by omega) (by rw [c1776, c1685]; rw [c1777, c1686]; rw [c1778, c1687]; rw [c1779, c1688]; rw [c1780, c1689]; rw [c1781, c1690]; rw [c1782, c1691]; rw [c1783, c1692]; rw [c1784, c1693]; rw [c1785, c1694]; omega) (by rw [c1786, c1695]; rw [c1787, c1696]; rw [c1777, c1686]; first | exact f_1 | exact hJ) (by rw [c1788, c1697]; rw [c1789, c1698]; first | exact f_2 | exact hK2) (by rw [c1791, c1700]; rw [c1787, c1696]; rw [c1777, c1686]; first | exact f_3 | exact hQ2) (by rw [c1792, c1701]; rw [c1793, c1702]; rw [c1779, c1688]; first | exact f_4 | exact hQ6) (by rw [c1794, c1703]; rw [c1795, c1704]; rw [c1779, c1688]; first | exact f_5 | exact hQ7) (by rw [c1796, c1705]; rw [c1797, c1706]; rw [c1779, c1688]; first | exact f_6 | exact hQ8) (by rw [c1798, c1707]; rw [c1799, c1708]; rw [c1779, c1688]; first | exact f_7 | exact hQ9) (by rw [c1800, c1709]; rw [c1801, c1710]; rw [c1781, c1690]; first | exact f_8 | exact hQ14) (by rw [c1802, c1711]; rw [c1803, c1712]; rw [c1781, c1690]; first | exact f_9 | exact hQ15) (by rw [c1804, c1713]; rw [c1805, c1714]; rw [c1781, c1690]; first | exact f_10 | exact hQ16) (by rw [c1806, c1715]; rw [c1807, c1716]; rw [c1781, c1690]; first | exact f_11 | exact hQ17) (by rw [c1808, c1717]; rw [c1809, c1718]; rw [c1781, c1690]; first | exact f_12 | exact hQ18) (by rw [c1810, c1719]; rw [c1811, c1720]; rw [c1781, c1690]; first | exact f_13 | exact hQ19) (by rw [c1812, c1721]; rw [c1813, c1722]; rw [c1781, c1690]; first | exact f_14 | exact hQ20) (by rw [c1814, c1723]; rw [c1815, c1724]; rw [c1783, c1692]; first | exact f_15 | exact hQ24) (by rw [c1816, c1725]; rw [c1817, c1726]; rw [c1783, c1692]; first | exact f_16 | exact hQ25) (by rw [c1818, c1727]; rw [c1819, c1728]; rw [c1783, c1692]; first | exact f_17 | exact hQ23) (by rw [c1820, c1729]; rw [c1821, c1730]; rw [c1783, c1692]; first | exact f_18 | exact hQ26) (by rw [c1822, c1731]; rw [c1823, c1732]; rw [c1783, c1692]; first | exact f_19 | exact hQ27) (by rw [c1824, c1733]; rw [c1825, c1734]; rw [c1785, c1694]; first | exact f_20 | exact hQ36) (by rw [c1826, c1735]; rw [c1827, c1736]; rw [c1785, c1694]; first | exact f_21 | exact hQ37) (by rw [c1828, c1737]; rw [c1834, c1743]; rw [c1829, c1738]; rw [c1830, c1739]; rw [c1831, c1740]; rw [c1832, c1741]; rw [c1833, c1742]; rw [c1835, c1744]; rw [c1836, c1745]; rw [c1837, c1746]; rw [c1838, c1747]; rw [c1839, c1748]; exact f_22) (by rw [c1840, c1749]; rw [c1847, c1756]; rw [c1841, c1750]; rw [c1848, c1757]; rw [c1843, c1752]; rw [c1850, c1759]; rw [c1844, c1753]; rw [c1851, c1760]; rw [c1846, c1755]; rw [c1853, c1762]; rw [c1845, c1754]; rw [c1852, c1761]; exact f_23) (by rw [c1841, c1750]; rw [c1840, c1749]; rw [c1842, c1751]; rw [c1849, c1758]; exact f_24) (by rw [c1825, c1734]; rw [c1827, c1736]; rw [c1848, c1757]; rw [c1785, c1694]; rw [c1854, c1763]; exact f_25) (by rw [c1848, c1757]; rw [c1785, c1694]; exact f_26) (by rw [c1855, c1764]; rw [c1858, c1767]; rw [c1856, c1765]; rw [c1859, c1768]; rw [c1857, c1766]; rw [c1860, c1769]; exact f_27) (by omega)
                        · clear h1677
                          refine sf_sw1 sf_c10 (fun h1862 => ?_) (fun h1862 => ?_)
                          · refine sf_aload rfl ?_
                            refine sf_aload rfl ?_
                            refine sf_iload rfl ?_
                            refine sf_iconst sf_c1 (fun z1863 ez1863 => ?_)
                            refine sf_iadd (by omega) (fun v1864 ev1864 => ?_)
                            refine sf_sldk (x := x4) (k := 1) (by omega) (by omega) (by omega) ?_
                            clear ev1864 ez1863
                            refine sf_aload rfl ?_
                            refine sf_iload rfl ?_
                            refine sf_iconst sf_c2 (fun z1865 ez1865 => ?_)
                            refine sf_iadd (by omega) (fun v1866 ev1866 => ?_)
                            refine sf_sldk (x := x4) (k := 2) (by omega) (by omega) (by omega) ?_
                            clear ev1866 ez1865
                            refine sf_aload rfl ?_
                            refine sf_iload rfl ?_
                            refine sf_iconst sf_c3 (fun z1867 ez1867 => ?_)
                            refine sf_iadd (by omega) (fun v1868 ev1868 => ?_)
                            refine sf_sldk (x := x4) (k := 3) (by omega) (by omega) (by omega) ?_
                            clear ev1868 ez1867
                            refine sf_callv4 rfl (by omega) (by omega) ?_
                            refine sc_W_rule_0 I_w  (fun v1869 w1870 Iw1870 tw1870 lv1869 uv1869 q1871_0 => ?_)
                            have c1872 := sf_mf tw1870 (p := 1) (j := 0) rfl
                            have c1873 := sf_mf tw1870 (p := 71) (j := 1) rfl
                            have c1874 := sf_mf tw1870 (p := 1) (j := 5) rfl
                            have c1875 := sf_mf tw1870 (p := 71) (j := 5) rfl
                            have c1876 := sf_mf tw1870 (p := 13) (j := 1) rfl
                            have c1877 := sf_mf tw1870 (p := 71) (j := 10) rfl
                            have c1878 := sf_mf tw1870 (p := 21) (j := 1) rfl
                            have c1879 := sf_mf tw1870 (p := 71) (j := 18) rfl
                            have c1880 := sf_mf tw1870 (p := 35) (j := 0) rfl
                            have c1881 := sf_mf tw1870 (p := 71) (j := 35) rfl
                            have c1882 := sf_ma tw1870 (p := 3) rfl
                            have c1883 := sf_ma tw1870 (p := 72) rfl
                            have c1884 := sf_mg tw1870 (p := 10) rfl
                            have c1885 := sf_ma tw1870 (p := 93) rfl
                            have c1886 := sf_mL tw1870 (p := 130) rfl
                            have c1887 := sf_ma tw1870 (p := 2) rfl
                            have c1888 := sf_ma tw1870 (p := 6) rfl
                            have c1889 := sf_ma tw1870 (p := 75) rfl
                            have c1890 := sf_ma tw1870 (p := 7) rfl
                            have c1891 := sf_ma tw1870 (p := 76) rfl
                            have c1892 := sf_ma tw1870 (p := 8) rfl
                            have c1893 := sf_ma tw1870 (p := 77) rfl
                            have c1894 := sf_ma tw1870 (p := 9) rfl
                            have c1895 := sf_ma tw1870 (p := 78) rfl
                            have c1896 := sf_ma tw1870 (p := 14) rfl
                            have c1897 := sf_ma tw1870 (p := 79) rfl
                            have c1898 := sf_ma tw1870 (p := 15) rfl
                            have c1899 := sf_ma tw1870 (p := 80) rfl
                            have c1900 := sf_ma tw1870 (p := 16) rfl
                            have c1901 := sf_ma tw1870 (p := 81) rfl
                            have c1902 := sf_ma tw1870 (p := 17) rfl
                            have c1903 := sf_ma tw1870 (p := 82) rfl
                            have c1904 := sf_ma tw1870 (p := 18) rfl
                            have c1905 := sf_ma tw1870 (p := 83) rfl
                            have c1906 := sf_ma tw1870 (p := 19) rfl
                            have c1907 := sf_ma tw1870 (p := 84) rfl
                            have c1908 := sf_ma tw1870 (p := 20) rfl
                            have c1909 := sf_ma tw1870 (p := 85) rfl
                            have c1910 := sf_ma tw1870 (p := 24) rfl
                            have c1911 := sf_ma tw1870 (p := 86) rfl
                            have c1912 := sf_ma tw1870 (p := 25) rfl
                            have c1913 := sf_ma tw1870 (p := 87) rfl
                            have c1914 := sf_ma tw1870 (p := 23) rfl
                            have c1915 := sf_ma tw1870 (p := 88) rfl
                            have c1916 := sf_ma tw1870 (p := 26) rfl
                            have c1917 := sf_ma tw1870 (p := 89) rfl
                            have c1918 := sf_ma tw1870 (p := 27) rfl
                            have c1919 := sf_ma tw1870 (p := 90) rfl
                            have c1920 := sf_ma tw1870 (p := 36) rfl
                            have c1921 := sf_ma tw1870 (p := 102) rfl
                            have c1922 := sf_ma tw1870 (p := 37) rfl
                            have c1923 := sf_ma tw1870 (p := 103) rfl
                            have c1924 := sf_mf tw1870 (p := 60) (j := 0) rfl
                            have c1925 := sf_ma tw1870 (p := 61) rfl
                            have c1926 := sf_ma tw1870 (p := 62) rfl
                            have c1927 := sf_ma tw1870 (p := 63) rfl
                            have c1928 := sf_ma tw1870 (p := 65) rfl
                            have c1929 := sf_ma tw1870 (p := 66) rfl
                            have c1930 := sf_mf tw1870 (p := 71) (j := 56) rfl
                            have c1931 := sf_ma tw1870 (p := 121) rfl
                            have c1932 := sf_ma tw1870 (p := 122) rfl
                            have c1933 := sf_ma tw1870 (p := 123) rfl
                            have c1934 := sf_ma tw1870 (p := 125) rfl
                            have c1935 := sf_ma tw1870 (p := 126) rfl
                            have c1936 := sf_ma tw1870 (p := 38) rfl
                            have c1937 := sf_ma tw1870 (p := 40) rfl
                            have c1938 := sf_ma tw1870 (p := 41) rfl
                            have c1939 := sf_ma tw1870 (p := 42) rfl
                            have c1940 := sf_ma tw1870 (p := 43) rfl
                            have c1941 := sf_ma tw1870 (p := 44) rfl
                            have c1942 := sf_ma tw1870 (p := 47) rfl
                            have c1943 := sf_ma tw1870 (p := 104) rfl
                            have c1944 := sf_ma tw1870 (p := 106) rfl
                            have c1945 := sf_ma tw1870 (p := 113) rfl
                            have c1946 := sf_ma tw1870 (p := 107) rfl
                            have c1947 := sf_ma tw1870 (p := 108) rfl
                            have c1948 := sf_ma tw1870 (p := 110) rfl
                            have c1949 := sf_ma tw1870 (p := 109) rfl
                            have c1950 := sf_mf tw1870 (p := 71) (j := 41) rfl
                            have c1951 := sf_ma tw1870 (p := 68) rfl
                            have c1952 := sf_ma tw1870 (p := 69) rfl
                            have c1953 := sf_ma tw1870 (p := 70) rfl
                            have c1954 := sf_ma tw1870 (p := 127) rfl
                            have c1955 := sf_ma tw1870 (p := 128) rfl
                            have c1956 := sf_ma tw1870 (p := 129) rfl
                            refine sf_istore (L' := [(0, .inl (.ref 100000)), (1, .inl (.ref 0)), (2, .inl (.ref 71)), (3, .inl (.ref 130)), (4, .inl (.int x4))]) rfl ?_
                            refine sf_aload rfl ?_
                            refine sf_aload rfl ?_
                            refine sf_iload rfl ?_
                            refine sf_iconst sf_c1 (fun z1957 ez1957 => ?_)
                            refine sf_iadd (by omega) (fun v1958 ev1958 => ?_)
                            refine sf_sldk (x := x4) (k := 1) (by omega) (by omega) (by omega) ?_
                            clear ev1958 ez1957
                            refine sf_aload rfl ?_
                            refine sf_iload rfl ?_
                            refine sf_iconst sf_c2 (fun z1959 ez1959 => ?_)
                            refine sf_iadd (by omega) (fun v1960 ev1960 => ?_)
                            refine sf_sldk (x := x4) (k := 2) (by omega) (by omega) (by omega) ?_
                            clear ev1960 ez1959
                            refine sf_aload rfl ?_
                            refine sf_iload rfl ?_
                            refine sf_iconst sf_c3 (fun z1961 ez1961 => ?_)
                            refine sf_iadd (by omega) (fun v1962 ev1962 => ?_)
                            refine sf_sldk (x := x4) (k := 3) (by omega) (by omega) (by omega) ?_
                            clear ev1962 ez1961
                            refine sf_callv4 rfl (by omega) (by omega) ?_
                            refine sf_rv Iw1870 rfl ?_
                            refine sc_M_rule Iw1870  (fun w1963 Iw1963 tw1963 q1964_0 => ?_)
                            rw [c1873] at q1964_0
                            have c1965 := sf_mf tw1963 (p := 1) (j := 0) rfl
                            have c1966 := sf_mf tw1963 (p := 71) (j := 1) rfl
                            have c1967 := sf_mf tw1963 (p := 1) (j := 5) rfl
                            have c1968 := sf_mf tw1963 (p := 71) (j := 5) rfl
                            have c1969 := sf_mf tw1963 (p := 13) (j := 1) rfl
                            have c1970 := sf_mf tw1963 (p := 71) (j := 10) rfl
                            have c1971 := sf_mf tw1963 (p := 21) (j := 1) rfl
                            have c1972 := sf_mf tw1963 (p := 71) (j := 18) rfl
                            have c1973 := sf_mf tw1963 (p := 35) (j := 0) rfl
                            have c1974 := sf_mf tw1963 (p := 71) (j := 35) rfl
                            have c1975 := sf_ma tw1963 (p := 3) rfl
                            have c1976 := sf_ma tw1963 (p := 72) rfl
                            have c1977 := sf_mg tw1963 (p := 10) rfl
                            have c1978 := sf_ma tw1963 (p := 93) rfl
                            have c1979 := sf_mL tw1963 (p := 130) rfl
                            have c1980 := sf_ma tw1963 (p := 2) rfl
                            have c1981 := sf_ma tw1963 (p := 6) rfl
                            have c1982 := sf_ma tw1963 (p := 75) rfl
                            have c1983 := sf_ma tw1963 (p := 7) rfl
                            have c1984 := sf_ma tw1963 (p := 76) rfl
                            have c1985 := sf_ma tw1963 (p := 8) rfl
                            have c1986 := sf_ma tw1963 (p := 77) rfl
                            have c1987 := sf_ma tw1963 (p := 9) rfl
                            have c1988 := sf_ma tw1963 (p := 78) rfl
                            have c1989 := sf_ma tw1963 (p := 14) rfl
                            have c1990 := sf_ma tw1963 (p := 79) rfl
                            have c1991 := sf_ma tw1963 (p := 15) rfl
                            have c1992 := sf_ma tw1963 (p := 80) rfl
                            have c1993 := sf_ma tw1963 (p := 16) rfl
                            have c1994 := sf_ma tw1963 (p := 81) rfl
                            have c1995 := sf_ma tw1963 (p := 17) rfl
                            have c1996 := sf_ma tw1963 (p := 82) rfl
                            have c1997 := sf_ma tw1963 (p := 18) rfl
                            have c1998 := sf_ma tw1963 (p := 83) rfl
                            have c1999 := sf_ma tw1963 (p := 19) rfl
                            have c2000 := sf_ma tw1963 (p := 84) rfl
                            have c2001 := sf_ma tw1963 (p := 20) rfl
                            have c2002 := sf_ma tw1963 (p := 85) rfl
                            have c2003 := sf_ma tw1963 (p := 24) rfl
                            have c2004 := sf_ma tw1963 (p := 86) rfl
                            have c2005 := sf_ma tw1963 (p := 25) rfl
                            have c2006 := sf_ma tw1963 (p := 87) rfl
                            have c2007 := sf_ma tw1963 (p := 23) rfl
                            have c2008 := sf_ma tw1963 (p := 88) rfl
                            have c2009 := sf_ma tw1963 (p := 26) rfl
                            have c2010 := sf_ma tw1963 (p := 89) rfl
                            have c2011 := sf_ma tw1963 (p := 27) rfl
                            have c2012 := sf_ma tw1963 (p := 90) rfl
                            have c2013 := sf_ma tw1963 (p := 36) rfl
                            have c2014 := sf_ma tw1963 (p := 102) rfl
                            have c2015 := sf_ma tw1963 (p := 37) rfl
                            have c2016 := sf_ma tw1963 (p := 103) rfl
                            have c2017 := sf_mf tw1963 (p := 60) (j := 0) rfl
                            have c2018 := sf_ma tw1963 (p := 61) rfl
                            have c2019 := sf_ma tw1963 (p := 62) rfl
                            have c2020 := sf_ma tw1963 (p := 63) rfl
                            have c2021 := sf_ma tw1963 (p := 65) rfl
                            have c2022 := sf_ma tw1963 (p := 66) rfl
                            have c2023 := sf_mf tw1963 (p := 71) (j := 56) rfl
                            have c2024 := sf_ma tw1963 (p := 121) rfl
                            have c2025 := sf_ma tw1963 (p := 122) rfl
                            have c2026 := sf_ma tw1963 (p := 123) rfl
                            have c2027 := sf_ma tw1963 (p := 125) rfl
                            have c2028 := sf_ma tw1963 (p := 126) rfl
                            have c2029 := sf_ma tw1963 (p := 38) rfl
                            have c2030 := sf_ma tw1963 (p := 40) rfl
                            have c2031 := sf_ma tw1963 (p := 41) rfl
                            have c2032 := sf_ma tw1963 (p := 42) rfl
                            have c2033 := sf_ma tw1963 (p := 43) rfl
                            have c2034 := sf_ma tw1963 (p := 44) rfl
                            have c2035 := sf_ma tw1963 (p := 47) rfl
                            have c2036 := sf_ma tw1963 (p := 104) rfl
                            have c2037 := sf_ma tw1963 (p := 106) rfl
                            have c2038 := sf_ma tw1963 (p := 113) rfl
                            have c2039 := sf_ma tw1963 (p := 107) rfl
                            have c2040 := sf_ma tw1963 (p := 108) rfl
                            have c2041 := sf_ma tw1963 (p := 110) rfl
                            have c2042 := sf_ma tw1963 (p := 109) rfl
                            have c2043 := sf_mf tw1963 (p := 71) (j := 41) rfl
                            have c2044 := sf_ma tw1963 (p := 68) rfl
                            have c2045 := sf_ma tw1963 (p := 69) rfl
                            have c2046 := sf_ma tw1963 (p := 70) rfl
                            have c2047 := sf_ma tw1963 (p := 127) rfl
                            have c2048 := sf_ma tw1963 (p := 128) rfl
                            have c2049 := sf_ma tw1963 (p := 129) rfl
                            show kt_W_law_1421 N xs K _ _ _ _ _
                            refine sf_iinc (L' := [(5, .inl (.int v1869)), (0, .inl (.ref 100000)), (1, .inl (.ref 0)), (2, .inl (.ref 71)), (3, .inl (.ref 130))]) (x := x4) sf_c8 rfl rfl (by omega) (fun v2050 ev2050 => ?_)
                            refine sf_can (L' := [(0, .inl (.ref 100000)), (1, .inl (.ref 0)), (2, .inl (.ref 71)), (3, .inl (.ref 130)), (4, .inl (.int v2050))]) rfl ?_
                            exact ih _ _ _ _ Iw1963 (by omega) (by omega) (by omega) (by omega) (by rw [c1965, c1872]; rw [c1966, c1873]; rw [c1967, c1874]; rw [c1968, c1875]; rw [c1969, c1876]; rw [c1970, c1877]; rw [c1971, c1878]; rw [c1972, c1879]; rw [c1973, c1880]; rw [c1974, c1881]; omega) (by rw [c1975, c1882]; rw [c1976, c1883]; rw [c1966, c1873]; first | exact f_1 | exact hJ) (by rw [c1977, c1884]; rw [c1978, c1885]; first | exact f_2 | exact hK2) (by rw [c1980, c1887]; rw [c1976, c1883]; rw [c1966, c1873]; first | exact f_3 | exact hQ2) (by rw [c1981, c1888]; rw [c1982, c1889]; rw [c1968, c1875]; first | exact f_4 | exact hQ6) (by rw [c1983, c1890]; rw [c1984, c1891]; rw [c1968, c1875]; first | exact f_5 | exact hQ7) (by rw [c1985, c1892]; rw [c1986, c1893]; rw [c1968, c1875]; first | exact f_6 | exact hQ8) (by rw [c1987, c1894]; rw [c1988, c1895]; rw [c1968, c1875]; first | exact f_7 | exact hQ9) (by rw [c1989, c1896]; rw [c1990, c1897]; rw [c1970, c1877]; first | exact f_8 | exact hQ14) (by rw [c1991, c1898]; rw [c1992, c1899]; rw [c1970, c1877]; first | exact f_9 | exact hQ15) (by rw [c1993, c1900]; rw [c1994, c1901]; rw [c1970, c1877]; first | exact f_10 | exact hQ16) (by rw [c1995, c1902]; rw [c1996, c1903]; rw [c1970, c1877]; first | exact f_11 | exact hQ17) (by rw [c1997, c1904]; rw [c1998, c1905]; rw [c1970, c1877]; first | exact f_12 | exact hQ18) (by rw [c1999, c1906]; rw [c2000, c1907]; rw [c1970, c1877]; first | exact f_13 | exact hQ19) (by rw [c2001, c1908]; rw [c2002, c1909]; rw [c1970, c1877]; first | exact f_14 | exact hQ20) (by rw [c2003, c1910]; rw [c2004, c1911]; rw [c1972, c1879]; first | exact f_15 | exact hQ24) (by rw [c2005, c1912]; rw [c2006, c1913]; rw [c1972, c1879]; first | exact f_16 | exact hQ25) (by rw [c2007, c1914]; rw [c2008, c1915]; rw [c1972, c1879]; first | exact f_17 | exact hQ23) (by rw [c2009, c1916]; rw [c2010, c1917]; rw [c1972, c1879]; first | exact f_18 | exact hQ26) (by rw [c2011, c1918]; rw [c2012, c1919]; rw [c1972, c1879]; first | exact f_19 | exact hQ27) (by rw [c2013, c1920]; rw [c2014, c1921]; rw [c1974, c1881]; first | exact f_20 | exact hQ36) (by rw [c2015, c1922]; rw [c2016, c1923]; rw [c1974, c1881]; first | exact f_21 | exact hQ37) (by rw [c2017, c1924]; rw [c2023, c1930]; rw [c2018, c1925]; rw [c2019, c1926]; rw [c2020, c1927]; rw [c2021, c1928]; rw [c2022, c1929]; rw [c2024, c1931]; rw [c2025, c1932]; rw [c2026, c1933]; rw [c2027, c1934]; rw [c2028, c1935]; exact f_22) (by rw [c2029, c1936]; rw [c2036, c1943]; rw [c2030, c1937]; rw [c2037, c1944]; rw [c2032, c1939]; rw [c2039, c1946]; rw [c2033, c1940]; rw [c2040, c1947]; rw [c2035, c1942]; rw [c2042, c1949]; rw [c2034, c1941]; rw [c2041, c1948]; exact f_23) (by rw [c2030, c1937]; rw [c2029, c1936]; rw [c2031, c1938]; rw [c2038, c1945]; exact f_24) (by rw [c2014, c1921]; rw [c2016, c1923]; rw [c2037, c1944]; rw [c1974, c1881]; rw [c2043, c1950]; exact f_25) (by rw [c2037, c1944]; rw [c1974, c1881]; exact f_26) (by rw [c2044, c1951]; rw [c2047, c1954]; rw [c2045, c1952]; rw [c2048, c1955]; rw [c2046, c1953]; rw [c2049, c1956]; exact f_27) (by omega)
                          · clear h1862
                            refine sf_sw1 sf_c11 (fun h2051 => ?_) (fun h2051 => ?_)
                            · refine sf_aload rfl ?_
                              refine sf_aload rfl ?_
                              refine sf_iload rfl ?_
                              refine sf_iconst sf_c1 (fun z2052 ez2052 => ?_)
                              refine sf_iadd (by omega) (fun v2053 ev2053 => ?_)
                              refine sf_sldk (x := x4) (k := 1) (by omega) (by omega) (by omega) ?_
                              clear ev2053 ez2052
                              refine sf_aload rfl ?_
                              refine sf_iload rfl ?_
                              refine sf_iconst sf_c2 (fun z2054 ez2054 => ?_)
                              refine sf_iadd (by omega) (fun v2055 ev2055 => ?_)
                              refine sf_sldk (x := x4) (k := 2) (by omega) (by omega) (by omega) ?_
                              clear ev2055 ez2054
                              refine sf_aload rfl ?_
                              refine sf_callv4 rfl (by omega) (by omega) ?_
                              refine sc_W_madeIn_0_130 I_w  (fun v2056 w2057 Iw2057 tw2057 lv2056 uv2056 => ?_)
                              have c2059 := sf_mf tw2057 (p := 1) (j := 0) rfl
                              have c2060 := sf_mf tw2057 (p := 71) (j := 1) rfl
                              have c2061 := sf_mf tw2057 (p := 1) (j := 5) rfl
                              have c2062 := sf_mf tw2057 (p := 71) (j := 5) rfl
                              have c2063 := sf_mf tw2057 (p := 13) (j := 1) rfl
                              have c2064 := sf_mf tw2057 (p := 71) (j := 10) rfl
                              have c2065 := sf_mf tw2057 (p := 21) (j := 1) rfl
                              have c2066 := sf_mf tw2057 (p := 71) (j := 18) rfl
                              have c2067 := sf_mf tw2057 (p := 35) (j := 0) rfl
                              have c2068 := sf_mf tw2057 (p := 71) (j := 35) rfl
                              have c2069 := sf_ma tw2057 (p := 3) rfl
                              have c2070 := sf_ma tw2057 (p := 72) rfl
                              have c2071 := sf_mg tw2057 (p := 10) rfl
                              have c2072 := sf_ma tw2057 (p := 93) rfl
                              have c2073 := sf_ma tw2057 (p := 2) rfl
                              have c2074 := sf_ma tw2057 (p := 6) rfl
                              have c2075 := sf_ma tw2057 (p := 75) rfl
                              have c2076 := sf_ma tw2057 (p := 7) rfl
                              have c2077 := sf_ma tw2057 (p := 76) rfl
                              have c2078 := sf_ma tw2057 (p := 8) rfl
                              have c2079 := sf_ma tw2057 (p := 77) rfl
                              have c2080 := sf_ma tw2057 (p := 9) rfl
                              have c2081 := sf_ma tw2057 (p := 78) rfl
                              have c2082 := sf_ma tw2057 (p := 14) rfl
                              have c2083 := sf_ma tw2057 (p := 79) rfl
                              have c2084 := sf_ma tw2057 (p := 15) rfl
                              have c2085 := sf_ma tw2057 (p := 80) rfl
                              have c2086 := sf_ma tw2057 (p := 16) rfl
                              have c2087 := sf_ma tw2057 (p := 81) rfl
                              have c2088 := sf_ma tw2057 (p := 17) rfl
                              have c2089 := sf_ma tw2057 (p := 82) rfl
                              have c2090 := sf_ma tw2057 (p := 18) rfl
                              have c2091 := sf_ma tw2057 (p := 83) rfl
                              have c2092 := sf_ma tw2057 (p := 19) rfl
                              have c2093 := sf_ma tw2057 (p := 84) rfl
                              have c2094 := sf_ma tw2057 (p := 20) rfl
                              have c2095 := sf_ma tw2057 (p := 85) rfl
                              have c2096 := sf_ma tw2057 (p := 24) rfl
                              have c2097 := sf_ma tw2057 (p := 86) rfl
                              have c2098 := sf_ma tw2057 (p := 25) rfl
                              have c2099 := sf_ma tw2057 (p := 87) rfl
                              have c2100 := sf_ma tw2057 (p := 23) rfl
                              have c2101 := sf_ma tw2057 (p := 88) rfl
                              have c2102 := sf_ma tw2057 (p := 26) rfl
                              have c2103 := sf_ma tw2057 (p := 89) rfl
                              have c2104 := sf_ma tw2057 (p := 27) rfl
                              have c2105 := sf_ma tw2057 (p := 90) rfl
                              have c2106 := sf_ma tw2057 (p := 36) rfl
                              have c2107 := sf_ma tw2057 (p := 102) rfl
                              have c2108 := sf_ma tw2057 (p := 37) rfl
                              have c2109 := sf_ma tw2057 (p := 103) rfl
                              have c2110 := sf_mf tw2057 (p := 60) (j := 0) rfl
                              have c2111 := sf_ma tw2057 (p := 61) rfl
                              have c2112 := sf_ma tw2057 (p := 62) rfl
                              have c2113 := sf_ma tw2057 (p := 63) rfl
                              have c2114 := sf_ma tw2057 (p := 65) rfl
                              have c2115 := sf_ma tw2057 (p := 66) rfl
                              have c2116 := sf_mf tw2057 (p := 71) (j := 56) rfl
                              have c2117 := sf_ma tw2057 (p := 121) rfl
                              have c2118 := sf_ma tw2057 (p := 122) rfl
                              have c2119 := sf_ma tw2057 (p := 123) rfl
                              have c2120 := sf_ma tw2057 (p := 125) rfl
                              have c2121 := sf_ma tw2057 (p := 126) rfl
                              have c2122 := sf_ma tw2057 (p := 38) rfl
                              have c2123 := sf_ma tw2057 (p := 40) rfl
                              have c2124 := sf_ma tw2057 (p := 41) rfl
                              have c2125 := sf_ma tw2057 (p := 42) rfl
                              have c2126 := sf_ma tw2057 (p := 43) rfl
                              have c2127 := sf_ma tw2057 (p := 44) rfl
                              have c2128 := sf_ma tw2057 (p := 47) rfl
                              have c2129 := sf_ma tw2057 (p := 104) rfl
                              have c2130 := sf_ma tw2057 (p := 106) rfl
                              have c2131 := sf_ma tw2057 (p := 113) rfl
                              have c2132 := sf_ma tw2057 (p := 107) rfl
                              have c2133 := sf_ma tw2057 (p := 108) rfl
                              have c2134 := sf_ma tw2057 (p := 110) rfl
                              have c2135 := sf_ma tw2057 (p := 109) rfl
                              have c2136 := sf_mf tw2057 (p := 71) (j := 41) rfl
                              have c2137 := sf_ma tw2057 (p := 68) rfl
                              have c2138 := sf_ma tw2057 (p := 69) rfl
                              have c2139 := sf_ma tw2057 (p := 70) rfl
                              have c2140 := sf_ma tw2057 (p := 127) rfl
                              have c2141 := sf_ma tw2057 (p := 128) rfl
                              have c2142 := sf_ma tw2057 (p := 129) rfl
                              refine sf_istore (L' := [(0, .inl (.ref 100000)), (1, .inl (.ref 0)), (2, .inl (.ref 71)), (3, .inl (.ref 130)), (4, .inl (.int x4))]) rfl ?_
                              refine sf_aload rfl ?_
                              refine sf_aload rfl ?_
                              refine sf_iload rfl ?_
                              refine sf_iconst sf_c1 (fun z2143 ez2143 => ?_)
                              refine sf_iadd (by omega) (fun v2144 ev2144 => ?_)
                              refine sf_sldk (x := x4) (k := 1) (by omega) (by omega) (by omega) ?_
                              clear ev2144 ez2143
                              refine sf_aload rfl ?_
                              refine sf_iload rfl ?_
                              refine sf_iconst sf_c2 (fun z2145 ez2145 => ?_)
                              refine sf_iadd (by omega) (fun v2146 ev2146 => ?_)
                              refine sf_sldk (x := x4) (k := 2) (by omega) (by omega) (by omega) ?_
                              clear ev2146 ez2145
                              refine sf_callv3 rfl (by omega) (by omega) ?_
                              refine sf_rv Iw2057 rfl ?_
                              refine sc_M_madeIn Iw2057  (fun v2147 w2148 Iw2148 tw2148 lv2147 uv2147 => ?_)
                              have c2150 := sf_mf tw2148 (p := 1) (j := 0) rfl
                              have c2151 := sf_mf tw2148 (p := 71) (j := 1) rfl
                              have c2152 := sf_mf tw2148 (p := 1) (j := 5) rfl
                              have c2153 := sf_mf tw2148 (p := 71) (j := 5) rfl
                              have c2154 := sf_mf tw2148 (p := 13) (j := 1) rfl
                              have c2155 := sf_mf tw2148 (p := 71) (j := 10) rfl
                              have c2156 := sf_mf tw2148 (p := 21) (j := 1) rfl
                              have c2157 := sf_mf tw2148 (p := 71) (j := 18) rfl
                              have c2158 := sf_mf tw2148 (p := 35) (j := 0) rfl
                              have c2159 := sf_mf tw2148 (p := 71) (j := 35) rfl
                              have c2160 := sf_ma tw2148 (p := 3) rfl
                              have c2161 := sf_ma tw2148 (p := 72) rfl
                              have c2162 := sf_mg tw2148 (p := 10) rfl
                              have c2163 := sf_ma tw2148 (p := 93) rfl
                              have c2164 := sf_mL tw2148 (p := 130) rfl
                              have c2165 := sf_ma tw2148 (p := 2) rfl
                              have c2166 := sf_ma tw2148 (p := 6) rfl
                              have c2167 := sf_ma tw2148 (p := 75) rfl
                              have c2168 := sf_ma tw2148 (p := 7) rfl
                              have c2169 := sf_ma tw2148 (p := 76) rfl
                              have c2170 := sf_ma tw2148 (p := 8) rfl
                              have c2171 := sf_ma tw2148 (p := 77) rfl
                              have c2172 := sf_ma tw2148 (p := 9) rfl
                              have c2173 := sf_ma tw2148 (p := 78) rfl
                              have c2174 := sf_ma tw2148 (p := 14) rfl
                              have c2175 := sf_ma tw2148 (p := 79) rfl
                              have c2176 := sf_ma tw2148 (p := 15) rfl
                              have c2177 := sf_ma tw2148 (p := 80) rfl
                              have c2178 := sf_ma tw2148 (p := 16) rfl
                              have c2179 := sf_ma tw2148 (p := 81) rfl
                              have c2180 := sf_ma tw2148 (p := 17) rfl
                              have c2181 := sf_ma tw2148 (p := 82) rfl
                              have c2182 := sf_ma tw2148 (p := 18) rfl
                              have c2183 := sf_ma tw2148 (p := 83) rfl
                              have c2184 := sf_ma tw2148 (p := 19) rfl
                              have c2185 := sf_ma tw2148 (p := 84) rfl
                              have c2186 := sf_ma tw2148 (p := 20) rfl
                              have c2187 := sf_ma tw2148 (p := 85) rfl
                              have c2188 := sf_ma tw2148 (p := 24) rfl
                              have c2189 := sf_ma tw2148 (p := 86) rfl
                              have c2190 := sf_ma tw2148 (p := 25) rfl
                              have c2191 := sf_ma tw2148 (p := 87) rfl
                              have c2192 := sf_ma tw2148 (p := 23) rfl
                              have c2193 := sf_ma tw2148 (p := 88) rfl
                              have c2194 := sf_ma tw2148 (p := 26) rfl
                              have c2195 := sf_ma tw2148 (p := 89) rfl
                              have c2196 := sf_ma tw2148 (p := 27) rfl
                              have c2197 := sf_ma tw2148 (p := 90) rfl
                              have c2198 := sf_ma tw2148 (p := 36) rfl
                              have c2199 := sf_ma tw2148 (p := 102) rfl
                              have c2200 := sf_ma tw2148 (p := 37) rfl
                              have c2201 := sf_ma tw2148 (p := 103) rfl
                              have c2202 := sf_mf tw2148 (p := 60) (j := 0) rfl
                              have c2203 := sf_ma tw2148 (p := 61) rfl
                              have c2204 := sf_ma tw2148 (p := 62) rfl
                              have c2205 := sf_ma tw2148 (p := 63) rfl
                              have c2206 := sf_ma tw2148 (p := 65) rfl
                              have c2207 := sf_ma tw2148 (p := 66) rfl
                              have c2208 := sf_mf tw2148 (p := 71) (j := 56) rfl
                              have c2209 := sf_ma tw2148 (p := 121) rfl
                              have c2210 := sf_ma tw2148 (p := 122) rfl
                              have c2211 := sf_ma tw2148 (p := 123) rfl
                              have c2212 := sf_ma tw2148 (p := 125) rfl
                              have c2213 := sf_ma tw2148 (p := 126) rfl
                              have c2214 := sf_ma tw2148 (p := 38) rfl
                              have c2215 := sf_ma tw2148 (p := 40) rfl
                              have c2216 := sf_ma tw2148 (p := 41) rfl
                              have c2217 := sf_ma tw2148 (p := 42) rfl
                              have c2218 := sf_ma tw2148 (p := 43) rfl
                              have c2219 := sf_ma tw2148 (p := 44) rfl
                              have c2220 := sf_ma tw2148 (p := 47) rfl
                              have c2221 := sf_ma tw2148 (p := 104) rfl
                              have c2222 := sf_ma tw2148 (p := 106) rfl
                              have c2223 := sf_ma tw2148 (p := 113) rfl
                              have c2224 := sf_ma tw2148 (p := 107) rfl
                              have c2225 := sf_ma tw2148 (p := 108) rfl
                              have c2226 := sf_ma tw2148 (p := 110) rfl
                              have c2227 := sf_ma tw2148 (p := 109) rfl
                              have c2228 := sf_mf tw2148 (p := 71) (j := 41) rfl
                              have c2229 := sf_ma tw2148 (p := 68) rfl
                              have c2230 := sf_ma tw2148 (p := 69) rfl
                              have c2231 := sf_ma tw2148 (p := 70) rfl
                              have c2232 := sf_ma tw2148 (p := 127) rfl
                              have c2233 := sf_ma tw2148 (p := 128) rfl
                              have c2234 := sf_ma tw2148 (p := 129) rfl
                              refine sf_istore (L' := [(5, .inl (.int v2056)), (0, .inl (.ref 100000)), (1, .inl (.ref 0)), (2, .inl (.ref 71)), (3, .inl (.ref 130)), (4, .inl (.int x4))]) rfl ?_
                              show kt_W_law_1421 N xs K _ _ _ _ _
                              refine sf_iinc (L' := [(6, .inl (.int v2147)), (5, .inl (.int v2056)), (0, .inl (.ref 100000)), (1, .inl (.ref 0)), (2, .inl (.ref 71)), (3, .inl (.ref 130))]) (x := x4) sf_c8 rfl rfl (by omega) (fun v2235 ev2235 => ?_)
                              refine sf_can (L' := [(0, .inl (.ref 100000)), (1, .inl (.ref 0)), (2, .inl (.ref 71)), (3, .inl (.ref 130)), (4, .inl (.int v2235))]) rfl ?_
                              exact ih _ _ _ _ Iw2148 (by omega) (by omega) (by omega) (by omega) (by rw [c2150, c2059]; rw [c2151, c2060]; rw [c2152, c2061]; rw [c2153, c2062]; rw [c2154, c2063]; rw [c2155, c2064]; rw [c2156, c2065]; rw [c2157, c2066]; rw [c2158, c2067]; rw [c2159, c2068]; omega) (by rw [c2160, c2069]; rw [c2161, c2070]; rw [c2151, c2060]; first | exact f_1 | exact hJ) (by rw [c2162, c2071]; rw [c2163, c2072]; first | exact f_2 | exact hK2) (by rw [c2165, c2073]; rw [c2161, c2070]; rw [c2151, c2060]; first | exact f_3 | exact hQ2) (by rw [c2166, c2074]; rw [c2167, c2075]; rw [c2153, c2062]; first | exact f_4 | exact hQ6) (by rw [c2168, c2076]; rw [c2169, c2077]; rw [c2153, c2062]; first | exact f_5 | exact hQ7) (by rw [c2170, c2078]; rw [c2171, c2079]; rw [c2153, c2062]; first | exact f_6 | exact hQ8) (by rw [c2172, c2080]; rw [c2173, c2081]; rw [c2153, c2062]; first | exact f_7 | exact hQ9) (by rw [c2174, c2082]; rw [c2175, c2083]; rw [c2155, c2064]; first | exact f_8 | exact hQ14) (by rw [c2176, c2084]; rw [c2177, c2085]; rw [c2155, c2064]; first | exact f_9 | exact hQ15) (by rw [c2178, c2086]; rw [c2179, c2087]; rw [c2155, c2064]; first | exact f_10 | exact hQ16) (by rw [c2180, c2088]; rw [c2181, c2089]; rw [c2155, c2064]; first | exact f_11 | exact hQ17) (by rw [c2182, c2090]; rw [c2183, c2091]; rw [c2155, c2064]; first | exact f_12 | exact hQ18) (by rw [c2184, c2092]; rw [c2185, c2093]; rw [c2155, c2064]; first | exact f_13 | exact hQ19) (by rw [c2186, c2094]; rw [c2187, c2095]; rw [c2155, c2064]; first | exact f_14 | exact hQ20) (by rw [c2188, c2096]; rw [c2189, c2097]; rw [c2157, c2066]; first | exact f_15 | exact hQ24) (by rw [c2190, c2098]; rw [c2191, c2099]; rw [c2157, c2066]; first | exact f_16 | exact hQ25) (by rw [c2192, c2100]; rw [c2193, c2101]; rw [c2157, c2066]; first | exact f_17 | exact hQ23) (by rw [c2194, c2102]; rw [c2195, c2103]; rw [c2157, c2066]; first | exact f_18 | exact hQ26) (by rw [c2196, c2104]; rw [c2197, c2105]; rw [c2157, c2066]; first | exact f_19 | exact hQ27) (by rw [c2198, c2106]; rw [c2199, c2107]; rw [c2159, c2068]; first | exact f_20 | exact hQ36) (by rw [c2200, c2108]; rw [c2201, c2109]; rw [c2159, c2068]; first | exact f_21 | exact hQ37) (by rw [c2202, c2110]; rw [c2208, c2116]; rw [c2203, c2111]; rw [c2204, c2112]; rw [c2205, c2113]; rw [c2206, c2114]; rw [c2207, c2115]; rw [c2209, c2117]; rw [c2210, c2118]; rw [c2211, c2119]; rw [c2212, c2120]; rw [c2213, c2121]; exact f_22) (by rw [c2214, c2122]; rw [c2221, c2129]; rw [c2215, c2123]; rw [c2222, c2130]; rw [c2217, c2125]; rw [c2224, c2132]; rw [c2218, c2126]; rw [c2225, c2133]; rw [c2220, c2128]; rw [c2227, c2135]; rw [c2219, c2127]; rw [c2226, c2134]; exact f_23) (by rw [c2215, c2123]; rw [c2214, c2122]; rw [c2216, c2124]; rw [c2223, c2131]; exact f_24) (by rw [c2199, c2107]; rw [c2201, c2109]; rw [c2222, c2130]; rw [c2159, c2068]; rw [c2228, c2136]; exact f_25) (by rw [c2222, c2130]; rw [c2159, c2068]; exact f_26) (by rw [c2229, c2137]; rw [c2232, c2140]; rw [c2230, c2138]; rw [c2233, c2141]; rw [c2231, c2139]; rw [c2234, c2142]; exact f_27) (by omega)
                            · clear h2051
                              refine sf_sw1 sf_c12 (fun h2236 => ?_) (fun h2236 => ?_)
                              · refine sf_aload rfl ?_
                                refine sf_aload rfl ?_
                                refine sf_iload rfl ?_
                                refine sf_iconst sf_c1 (fun z2237 ez2237 => ?_)
                                refine sf_iadd (by omega) (fun v2238 ev2238 => ?_)
                                refine sf_sldk (x := x4) (k := 1) (by omega) (by omega) (by omega) ?_
                                clear ev2238 ez2237
                                refine sf_aload rfl ?_
                                refine sf_iload rfl ?_
                                refine sf_iconst sf_c2 (fun z2239 ez2239 => ?_)
                                refine sf_iadd (by omega) (fun v2240 ev2240 => ?_)
                                refine sf_sldk (x := x4) (k := 2) (by omega) (by omega) (by omega) ?_
                                clear ev2240 ez2239
                                refine sf_aload rfl ?_
                                refine sf_callv4 rfl (by omega) (by omega) ?_
                                refine sc_W_declare_0_130 I_w  (fun v2241 w2242 Iw2242 tw2242 lv2241 uv2241 q2243_0 q2243_1 q2243_2 => ?_)
                                have c2244 := sf_mf tw2242 (p := 1) (j := 0) rfl
                                have c2245 := sf_mf tw2242 (p := 71) (j := 1) rfl
                                have c2246 := sf_mf tw2242 (p := 1) (j := 5) rfl
                                have c2247 := sf_mf tw2242 (p := 71) (j := 5) rfl
                                have c2248 := sf_mf tw2242 (p := 13) (j := 1) rfl
                                have c2249 := sf_mf tw2242 (p := 71) (j := 10) rfl
                                have c2250 := sf_mf tw2242 (p := 21) (j := 1) rfl
                                have c2251 := sf_mf tw2242 (p := 71) (j := 18) rfl
                                have c2252 := sf_mf tw2242 (p := 71) (j := 35) rfl
                                have c2253 := sf_ma tw2242 (p := 3) rfl
                                have c2254 := sf_ma tw2242 (p := 72) rfl
                                have c2255 := sf_mg tw2242 (p := 10) rfl
                                have c2256 := sf_ma tw2242 (p := 93) rfl
                                have c2257 := sf_ma tw2242 (p := 2) rfl
                                have c2258 := sf_ma tw2242 (p := 6) rfl
                                have c2259 := sf_ma tw2242 (p := 75) rfl
                                have c2260 := sf_ma tw2242 (p := 7) rfl
                                have c2261 := sf_ma tw2242 (p := 76) rfl
                                have c2262 := sf_ma tw2242 (p := 8) rfl
                                have c2263 := sf_ma tw2242 (p := 77) rfl
                                have c2264 := sf_ma tw2242 (p := 9) rfl
                                have c2265 := sf_ma tw2242 (p := 78) rfl
                                have c2266 := sf_ma tw2242 (p := 14) rfl
                                have c2267 := sf_ma tw2242 (p := 79) rfl
                                have c2268 := sf_ma tw2242 (p := 15) rfl
                                have c2269 := sf_ma tw2242 (p := 80) rfl
                                have c2270 := sf_ma tw2242 (p := 16) rfl
                                have c2271 := sf_ma tw2242 (p := 81) rfl
                                have c2272 := sf_ma tw2242 (p := 17) rfl
                                have c2273 := sf_ma tw2242 (p := 82) rfl
                                have c2274 := sf_ma tw2242 (p := 18) rfl
                                have c2275 := sf_ma tw2242 (p := 83) rfl
                                have c2276 := sf_ma tw2242 (p := 19) rfl
                                have c2277 := sf_ma tw2242 (p := 84) rfl
                                have c2278 := sf_ma tw2242 (p := 20) rfl
                                have c2279 := sf_ma tw2242 (p := 85) rfl
                                have c2280 := sf_ma tw2242 (p := 24) rfl
                                have c2281 := sf_ma tw2242 (p := 86) rfl
                                have c2282 := sf_ma tw2242 (p := 25) rfl
                                have c2283 := sf_ma tw2242 (p := 87) rfl
                                have c2284 := sf_ma tw2242 (p := 23) rfl
                                have c2285 := sf_ma tw2242 (p := 88) rfl
                                have c2286 := sf_ma tw2242 (p := 26) rfl
                                have c2287 := sf_ma tw2242 (p := 89) rfl
                                have c2288 := sf_ma tw2242 (p := 27) rfl
                                have c2289 := sf_ma tw2242 (p := 90) rfl
                                have c2290 := sf_ma tw2242 (p := 102) rfl
                                have c2291 := sf_ma tw2242 (p := 103) rfl
                                have c2292 := sf_mf tw2242 (p := 60) (j := 0) rfl
                                have c2293 := sf_ma tw2242 (p := 61) rfl
                                have c2294 := sf_ma tw2242 (p := 62) rfl
                                have c2295 := sf_ma tw2242 (p := 63) rfl
                                have c2296 := sf_ma tw2242 (p := 65) rfl
                                have c2297 := sf_ma tw2242 (p := 66) rfl
                                have c2298 := sf_mf tw2242 (p := 71) (j := 56) rfl
                                have c2299 := sf_ma tw2242 (p := 121) rfl
                                have c2300 := sf_ma tw2242 (p := 122) rfl
                                have c2301 := sf_ma tw2242 (p := 123) rfl
                                have c2302 := sf_ma tw2242 (p := 125) rfl
                                have c2303 := sf_ma tw2242 (p := 126) rfl
                                have c2304 := sf_ma tw2242 (p := 38) rfl
                                have c2305 := sf_ma tw2242 (p := 40) rfl
                                have c2306 := sf_ma tw2242 (p := 41) rfl
                                have c2307 := sf_ma tw2242 (p := 42) rfl
                                have c2308 := sf_ma tw2242 (p := 43) rfl
                                have c2309 := sf_ma tw2242 (p := 44) rfl
                                have c2310 := sf_ma tw2242 (p := 47) rfl
                                have c2311 := sf_ma tw2242 (p := 104) rfl
                                have c2312 := sf_ma tw2242 (p := 106) rfl
                                have c2313 := sf_ma tw2242 (p := 113) rfl
                                have c2314 := sf_ma tw2242 (p := 107) rfl
                                have c2315 := sf_ma tw2242 (p := 108) rfl
                                have c2316 := sf_ma tw2242 (p := 110) rfl
                                have c2317 := sf_ma tw2242 (p := 109) rfl
                                have c2318 := sf_mf tw2242 (p := 71) (j := 41) rfl
                                have c2319 := sf_ma tw2242 (p := 68) rfl
                                have c2320 := sf_ma tw2242 (p := 69) rfl
                                have c2321 := sf_ma tw2242 (p := 70) rfl
                                have c2322 := sf_ma tw2242 (p := 127) rfl
                                have c2323 := sf_ma tw2242 (p := 128) rfl
                                have c2324 := sf_ma tw2242 (p := 129) rfl
                                have U36 := q2243_1
                                have U37 := q2243_2
                                clear q2243_1 q2243_2
                                have F1 := q2243_0
                                refine sf_istore (L' := [(0, .inl (.ref 100000)), (1, .inl (.ref 0)), (2, .inl (.ref 71)), (3, .inl (.ref 130)), (4, .inl (.int x4))]) rfl ?_
                                refine sf_aload rfl ?_
                                refine sf_aload rfl ?_
                                refine sf_iload rfl ?_
                                refine sf_iconst sf_c1 (fun z2325 ez2325 => ?_)
                                refine sf_iadd (by omega) (fun v2326 ev2326 => ?_)
                                refine sf_sldk (x := x4) (k := 1) (by omega) (by omega) (by omega) ?_
                                clear ev2326 ez2325
                                refine sf_aload rfl ?_
                                refine sf_iload rfl ?_
                                refine sf_iconst sf_c2 (fun z2327 ez2327 => ?_)
                                refine sf_iadd (by omega) (fun v2328 ev2328 => ?_)
                                refine sf_sldk (x := x4) (k := 2) (by omega) (by omega) (by omega) ?_
                                clear ev2328 ez2327
                                refine sf_callv3 rfl (by omega) (by omega) ?_
                                refine sf_rv Iw2242 rfl ?_
                                refine sc_M_declare Iw2242  (fun v2329 w2330 Iw2330 tw2330 lv2329 uv2329 q2331_0 q2331_1 q2331_2 => ?_)
                                rw [c2252] at q2331_0
                                rw [c2290] at q2331_1
                                rw [c2252] at q2331_1
                                rw [c2291] at q2331_2
                                rw [c2252] at q2331_2
                                have c2332 := sf_mf tw2330 (p := 1) (j := 0) rfl
                                have c2333 := sf_mf tw2330 (p := 71) (j := 1) rfl
                                have c2334 := sf_mf tw2330 (p := 1) (j := 5) rfl
                                have c2335 := sf_mf tw2330 (p := 71) (j := 5) rfl
                                have c2336 := sf_mf tw2330 (p := 13) (j := 1) rfl
                                have c2337 := sf_mf tw2330 (p := 71) (j := 10) rfl
                                have c2338 := sf_mf tw2330 (p := 21) (j := 1) rfl
                                have c2339 := sf_mf tw2330 (p := 71) (j := 18) rfl
                                have c2340 := sf_mf tw2330 (p := 35) (j := 0) rfl
                                have c2341 := sf_ma tw2330 (p := 3) rfl
                                have c2342 := sf_ma tw2330 (p := 72) rfl
                                have c2343 := sf_mg tw2330 (p := 10) rfl
                                have c2344 := sf_ma tw2330 (p := 93) rfl
                                have c2345 := sf_mL tw2330 (p := 130) rfl
                                have c2346 := sf_ma tw2330 (p := 2) rfl
                                have c2347 := sf_ma tw2330 (p := 6) rfl
                                have c2348 := sf_ma tw2330 (p := 75) rfl
                                have c2349 := sf_ma tw2330 (p := 7) rfl
                                have c2350 := sf_ma tw2330 (p := 76) rfl
                                have c2351 := sf_ma tw2330 (p := 8) rfl
                                have c2352 := sf_ma tw2330 (p := 77) rfl
                                have c2353 := sf_ma tw2330 (p := 9) rfl
                                have c2354 := sf_ma tw2330 (p := 78) rfl
                                have c2355 := sf_ma tw2330 (p := 14) rfl
                                have c2356 := sf_ma tw2330 (p := 79) rfl
                                have c2357 := sf_ma tw2330 (p := 15) rfl
                                have c2358 := sf_ma tw2330 (p := 80) rfl
                                have c2359 := sf_ma tw2330 (p := 16) rfl
                                have c2360 := sf_ma tw2330 (p := 81) rfl
                                have c2361 := sf_ma tw2330 (p := 17) rfl
                                have c2362 := sf_ma tw2330 (p := 82) rfl
                                have c2363 := sf_ma tw2330 (p := 18) rfl
                                have c2364 := sf_ma tw2330 (p := 83) rfl
                                have c2365 := sf_ma tw2330 (p := 19) rfl
                                have c2366 := sf_ma tw2330 (p := 84) rfl
                                have c2367 := sf_ma tw2330 (p := 20) rfl
                                have c2368 := sf_ma tw2330 (p := 85) rfl
                                have c2369 := sf_ma tw2330 (p := 24) rfl
                                have c2370 := sf_ma tw2330 (p := 86) rfl
                                have c2371 := sf_ma tw2330 (p := 25) rfl
                                have c2372 := sf_ma tw2330 (p := 87) rfl
                                have c2373 := sf_ma tw2330 (p := 23) rfl
                                have c2374 := sf_ma tw2330 (p := 88) rfl
                                have c2375 := sf_ma tw2330 (p := 26) rfl
                                have c2376 := sf_ma tw2330 (p := 89) rfl
                                have c2377 := sf_ma tw2330 (p := 27) rfl
                                have c2378 := sf_ma tw2330 (p := 90) rfl
                                have c2379 := sf_ma tw2330 (p := 36) rfl
                                have c2380 := sf_ma tw2330 (p := 37) rfl
                                have c2381 := sf_mf tw2330 (p := 60) (j := 0) rfl
                                have c2382 := sf_ma tw2330 (p := 61) rfl
                                have c2383 := sf_ma tw2330 (p := 62) rfl
                                have c2384 := sf_ma tw2330 (p := 63) rfl
                                have c2385 := sf_ma tw2330 (p := 65) rfl
                                have c2386 := sf_ma tw2330 (p := 66) rfl
                                have c2387 := sf_mf tw2330 (p := 71) (j := 56) rfl
                                have c2388 := sf_ma tw2330 (p := 121) rfl
                                have c2389 := sf_ma tw2330 (p := 122) rfl
                                have c2390 := sf_ma tw2330 (p := 123) rfl
                                have c2391 := sf_ma tw2330 (p := 125) rfl
                                have c2392 := sf_ma tw2330 (p := 126) rfl
                                have c2393 := sf_ma tw2330 (p := 38) rfl
                                have c2394 := sf_ma tw2330 (p := 40) rfl
                                have c2395 := sf_ma tw2330 (p := 41) rfl
                                have c2396 := sf_ma tw2330 (p := 42) rfl
                                have c2397 := sf_ma tw2330 (p := 43) rfl
                                have c2398 := sf_ma tw2330 (p := 44) rfl
                                have c2399 := sf_ma tw2330 (p := 47) rfl
                                have c2400 := sf_ma tw2330 (p := 104) rfl
                                have c2401 := sf_ma tw2330 (p := 106) rfl
                                have c2402 := sf_ma tw2330 (p := 113) rfl
                                have c2403 := sf_ma tw2330 (p := 107) rfl
                                have c2404 := sf_ma tw2330 (p := 108) rfl
                                have c2405 := sf_ma tw2330 (p := 110) rfl
                                have c2406 := sf_ma tw2330 (p := 109) rfl
                                have c2407 := sf_mf tw2330 (p := 71) (j := 41) rfl
                                have c2408 := sf_ma tw2330 (p := 68) rfl
                                have c2409 := sf_ma tw2330 (p := 69) rfl
                                have c2410 := sf_ma tw2330 (p := 70) rfl
                                have c2411 := sf_ma tw2330 (p := 127) rfl
                                have c2412 := sf_ma tw2330 (p := 128) rfl
                                have c2413 := sf_ma tw2330 (p := 129) rfl
                                have U102 := q2331_1
                                have U103 := q2331_2
                                clear q2331_1 q2331_2
                                have G1 := q2331_0
                                have hrc : v2241.toInt = (sf_f w2330 71 0).toInt := by omega
                                have hcn : (v2241.toInt = 0 ∧ (sf_f w2330 71 35).toInt = (sf_f w 71 35).toInt + 1) ∨ (v2241.toInt ≠ 0 ∧ (sf_f w2330 71 35).toInt = (sf_f w 71 35).toInt) := by omega
                                have hQ36 := sf_QH f_20 U36 U102 (by omega) hrc hcn
                                have hQ37 := sf_QH f_21 U37 U103 (by omega) hrc hcn
                                have b12 := (sf_fb I_w (p := 71) (ci := 9) (j := 35) rfl rfl)
                                have b13 := (sf_fb Iw2330 (p := 71) (ci := 9) (j := 35) rfl rfl)
                                have hTU := sl_RTd f_25 f_26 (by omega) U102 U103 (by rw [← hrc]; exact hcn) (by omega)
                                have hRT := hTU.1
                                have hRU := hTU.2
                                refine sf_istore (L' := [(5, .inl (.int v2241)), (0, .inl (.ref 100000)), (1, .inl (.ref 0)), (2, .inl (.ref 71)), (3, .inl (.ref 130)), (4, .inl (.int x4))]) rfl ?_
                                show kt_W_law_1421 N xs K _ _ _ _ _
                                refine sf_iinc (L' := [(6, .inl (.int v2329)), (5, .inl (.int v2241)), (0, .inl (.ref 100000)), (1, .inl (.ref 0)), (2, .inl (.ref 71)), (3, .inl (.ref 130))]) (x := x4) sf_c8 rfl rfl (by omega) (fun v2414 ev2414 => ?_)
                                refine sf_can (L' := [(0, .inl (.ref 100000)), (1, .inl (.ref 0)), (2, .inl (.ref 71)), (3, .inl (.ref 130)), (4, .inl (.int v2414))]) rfl ?_
                                exact ih _ _ _ _ Iw2330 (by omega) (by omega) (by omega) (by omega) (by rw [c2332, c2244]; rw [c2333, c2245]; rw [c2334, c2246]; rw [c2335, c2247]; rw [c2336, c2248]; rw [c2337, c2249]; rw [c2338, c2250]; rw [c2339, c2251]; rw [c2340]; omega) (by rw [c2341, c2253]; rw [c2342, c2254]; rw [c2333, c2245]; first | exact f_1 | exact hJ) (by rw [c2343, c2255]; rw [c2344, c2256]; first | exact f_2 | exact hK2) (by rw [c2346, c2257]; rw [c2342, c2254]; rw [c2333, c2245]; first | exact f_3 | exact hQ2) (by rw [c2347, c2258]; rw [c2348, c2259]; rw [c2335, c2247]; first | exact f_4 | exact hQ6) (by rw [c2349, c2260]; rw [c2350, c2261]; rw [c2335, c2247]; first | exact f_5 | exact hQ7) (by rw [c2351, c2262]; rw [c2352, c2263]; rw [c2335, c2247]; first | exact f_6 | exact hQ8) (by rw [c2353, c2264]; rw [c2354, c2265]; rw [c2335, c2247]; first | exact f_7 | exact hQ9) (by rw [c2355, c2266]; rw [c2356, c2267]; rw [c2337, c2249]; first | exact f_8 | exact hQ14) (by rw [c2357, c2268]; rw [c2358, c2269]; rw [c2337, c2249]; first | exact f_9 | exact hQ15) (by rw [c2359, c2270]; rw [c2360, c2271]; rw [c2337, c2249]; first | exact f_10 | exact hQ16) (by rw [c2361, c2272]; rw [c2362, c2273]; rw [c2337, c2249]; first | exact f_11 | exact hQ17) (by rw [c2363, c2274]; rw [c2364, c2275]; rw [c2337, c2249]; first | exact f_12 | exact hQ18) (by rw [c2365, c2276]; rw [c2366, c2277]; rw [c2337, c2249]; first | exact f_13 | exact hQ19) (by rw [c2367, c2278]; rw [c2368, c2279]; rw [c2337, c2249]; first | exact f_14 | exact hQ20) (by rw [c2369, c2280]; rw [c2370, c2281]; rw [c2339, c2251]; first | exact f_15 | exact hQ24) (by rw [c2371, c2282]; rw [c2372, c2283]; rw [c2339, c2251]; first | exact f_16 | exact hQ25) (by rw [c2373, c2284]; rw [c2374, c2285]; rw [c2339, c2251]; first | exact f_17 | exact hQ23) (by rw [c2375, c2286]; rw [c2376, c2287]; rw [c2339, c2251]; first | exact f_18 | exact hQ26) (by rw [c2377, c2288]; rw [c2378, c2289]; rw [c2339, c2251]; first | exact f_19 | exact hQ27) (by rw [c2379]; first | exact f_20 | exact hQ36) (by rw [c2380]; first | exact f_21 | exact hQ37) (by rw [c2381, c2292]; rw [c2387, c2298]; rw [c2382, c2293]; rw [c2383, c2294]; rw [c2384, c2295]; rw [c2385, c2296]; rw [c2386, c2297]; rw [c2388, c2299]; rw [c2389, c2300]; rw [c2390, c2301]; rw [c2391, c2302]; rw [c2392, c2303]; exact f_22) (by rw [c2393, c2304]; rw [c2400, c2311]; rw [c2394, c2305]; rw [c2401, c2312]; rw [c2396, c2307]; rw [c2403, c2314]; rw [c2397, c2308]; rw [c2404, c2315]; rw [c2399, c2310]; rw [c2406, c2317]; rw [c2398, c2309]; rw [c2405, c2316]; exact f_23) (by rw [c2394, c2305]; rw [c2393, c2304]; rw [c2395, c2306]; rw [c2402, c2313]; exact f_24) (by rw [c2401, c2312]; rw [c2407, c2318]; exact hRT) (by rw [c2401, c2312]; exact hRU) (by rw [c2408, c2319]; rw [c2411, c2322]; rw [c2409, c2320]; rw [c2412, c2323]; rw [c2410, c2321]; rw [c2413, c2324]; exact f_27) (by omega)
                              · clear h2236
                                refine sf_sw1 sf_c13 (fun h2415 => ?_) (fun h2415 => ?_)
                                · refine sf_aload rfl ?_
                                  refine sf_aload rfl ?_
                                  refine sf_iload rfl ?_
                                  refine sf_iconst sf_c1 (fun z2416 ez2416 => ?_)
                                  refine sf_iadd (by omega) (fun v2417 ev2417 => ?_)
                                  refine sf_sldk (x := x4) (k := 1) (by omega) (by omega) (by omega) ?_
                                  clear ev2417 ez2416
                                  refine sf_aload rfl ?_
                                  refine sf_iload rfl ?_
                                  refine sf_iconst sf_c2 (fun z2418 ez2418 => ?_)
                                  refine sf_iadd (by omega) (fun v2419 ev2419 => ?_)
                                  refine sf_sldk (x := x4) (k := 2) (by omega) (by omega) (by omega) ?_
                                  clear ev2419 ez2418
                                  refine sf_aload rfl ?_
                                  refine sf_iload rfl ?_
                                  refine sf_iconst sf_c3 (fun z2420 ez2420 => ?_)
                                  refine sf_iadd (by omega) (fun v2421 ev2421 => ?_)
                                  refine sf_sldk (x := x4) (k := 3) (by omega) (by omega) (by omega) ?_
                                  clear ev2421 ez2420
                                  refine sf_aload rfl ?_
                                  refine sf_iload rfl ?_
                                  refine sf_iconst sf_c4 (fun z2422 ez2422 => ?_)
                                  refine sf_iadd (by omega) (fun v2423 ev2423 => ?_)
                                  refine sf_sldk (x := x4) (k := 4) (by omega) (by omega) (by omega) ?_
                                  clear ev2423 ez2422
                                  refine sf_aload rfl ?_
                                  refine sf_iload rfl ?_
                                  refine sf_iconst sf_c5 (fun z2424 ez2424 => ?_)
                                  refine sf_iadd (by omega) (fun v2425 ev2425 => ?_)
                                  refine sf_sldk (x := x4) (k := 5) (by omega) (by omega) (by omega) ?_
                                  clear ev2425 ez2424
                                  refine sf_aload rfl ?_
                                  refine sf_iload rfl ?_
                                  refine sf_iconst sf_c6 (fun z2426 ez2426 => ?_)
                                  refine sf_iadd (by omega) (fun v2427 ev2427 => ?_)
                                  refine sf_sldk (x := x4) (k := 6) (by omega) (by omega) (by omega) ?_
                                  clear ev2427 ez2426
                                  refine sf_aload rfl ?_
                                  refine sf_iload rfl ?_
                                  refine sf_iconst sf_c7 (fun z2428 ez2428 => ?_)
                                  refine sf_iadd (by omega) (fun v2429 ev2429 => ?_)
                                  refine sf_sldk (x := x4) (k := 7) (by omega) (by omega) (by omega) ?_
                                  clear ev2429 ez2428
                                  refine sf_f1_eq (fun h2430 => ?_) (fun h2430 => ?_)
                                  · refine sf_iconst sf_c0 (fun z2431 ez2431 => ?_)
                                    refine sf_aload rfl ?_
                                    refine sf_callv9 rfl (by omega) (by omega) ?_
                                    refine sc_W_line_0_130 I_w (by omega) (by omega) (fun v2432 w2433 Iw2433 tw2433 lv2432 uv2432 q2434_0 q2434_1 q2434_2 q2434_3 q2434_4 q2434_5 => ?_)
                                    have c2435 := sf_mf tw2433 (p := 1) (j := 0) rfl
                                    have c2436 := sf_mf tw2433 (p := 71) (j := 1) rfl
                                    have c2437 := sf_mf tw2433 (p := 1) (j := 5) rfl
                                    have c2438 := sf_mf tw2433 (p := 71) (j := 5) rfl
                                    have c2439 := sf_mf tw2433 (p := 13) (j := 1) rfl
                                    have c2440 := sf_mf tw2433 (p := 71) (j := 10) rfl
                                    have c2441 := sf_mf tw2433 (p := 21) (j := 1) rfl
                                    have c2442 := sf_mf tw2433 (p := 71) (j := 18) rfl
                                    have c2443 := sf_mf tw2433 (p := 35) (j := 0) rfl
                                    have c2444 := sf_mf tw2433 (p := 71) (j := 35) rfl
                                    have c2445 := sf_ma tw2433 (p := 3) rfl
                                    have c2446 := sf_ma tw2433 (p := 72) rfl
                                    have c2447 := sf_mg tw2433 (p := 10) rfl
                                    have c2448 := sf_ma tw2433 (p := 93) rfl
                                    have c2449 := sf_ma tw2433 (p := 2) rfl
                                    have c2450 := sf_ma tw2433 (p := 6) rfl
                                    have c2451 := sf_ma tw2433 (p := 75) rfl
                                    have c2452 := sf_ma tw2433 (p := 7) rfl
                                    have c2453 := sf_ma tw2433 (p := 76) rfl
                                    have c2454 := sf_ma tw2433 (p := 8) rfl
                                    have c2455 := sf_ma tw2433 (p := 77) rfl
                                    have c2456 := sf_ma tw2433 (p := 9) rfl
                                    have c2457 := sf_ma tw2433 (p := 78) rfl
                                    have c2458 := sf_ma tw2433 (p := 14) rfl
                                    have c2459 := sf_ma tw2433 (p := 79) rfl
                                    have c2460 := sf_ma tw2433 (p := 15) rfl
                                    have c2461 := sf_ma tw2433 (p := 80) rfl
                                    have c2462 := sf_ma tw2433 (p := 16) rfl
                                    have c2463 := sf_ma tw2433 (p := 81) rfl
                                    have c2464 := sf_ma tw2433 (p := 17) rfl
                                    have c2465 := sf_ma tw2433 (p := 82) rfl
                                    have c2466 := sf_ma tw2433 (p := 18) rfl
                                    have c2467 := sf_ma tw2433 (p := 83) rfl
                                    have c2468 := sf_ma tw2433 (p := 19) rfl
                                    have c2469 := sf_ma tw2433 (p := 84) rfl
                                    have c2470 := sf_ma tw2433 (p := 20) rfl
                                    have c2471 := sf_ma tw2433 (p := 85) rfl
                                    have c2472 := sf_ma tw2433 (p := 24) rfl
                                    have c2473 := sf_ma tw2433 (p := 86) rfl
                                    have c2474 := sf_ma tw2433 (p := 25) rfl
                                    have c2475 := sf_ma tw2433 (p := 87) rfl
                                    have c2476 := sf_ma tw2433 (p := 23) rfl
                                    have c2477 := sf_ma tw2433 (p := 88) rfl
                                    have c2478 := sf_ma tw2433 (p := 26) rfl
                                    have c2479 := sf_ma tw2433 (p := 89) rfl
                                    have c2480 := sf_ma tw2433 (p := 27) rfl
                                    have c2481 := sf_ma tw2433 (p := 90) rfl
                                    have c2482 := sf_ma tw2433 (p := 36) rfl
                                    have c2483 := sf_ma tw2433 (p := 102) rfl
                                    have c2484 := sf_ma tw2433 (p := 37) rfl
                                    have c2485 := sf_ma tw2433 (p := 103) rfl
                                    have c2486 := sf_mf tw2433 (p := 60) (j := 0) rfl
                                    have c2487 := sf_ma tw2433 (p := 61) rfl
                                    have c2488 := sf_ma tw2433 (p := 62) rfl
                                    have c2489 := sf_ma tw2433 (p := 63) rfl
                                    have c2490 := sf_ma tw2433 (p := 65) rfl
                                    have c2491 := sf_ma tw2433 (p := 66) rfl
                                    have c2492 := sf_mf tw2433 (p := 71) (j := 56) rfl
                                    have c2493 := sf_ma tw2433 (p := 121) rfl
                                    have c2494 := sf_ma tw2433 (p := 122) rfl
                                    have c2495 := sf_ma tw2433 (p := 123) rfl
                                    have c2496 := sf_ma tw2433 (p := 125) rfl
                                    have c2497 := sf_ma tw2433 (p := 126) rfl
                                    have c2498 := sf_ma tw2433 (p := 40) rfl
                                    have c2499 := sf_ma tw2433 (p := 41) rfl
                                    have c2500 := sf_ma tw2433 (p := 104) rfl
                                    have c2501 := sf_ma tw2433 (p := 106) rfl
                                    have c2502 := sf_ma tw2433 (p := 113) rfl
                                    have c2503 := sf_ma tw2433 (p := 107) rfl
                                    have c2504 := sf_ma tw2433 (p := 108) rfl
                                    have c2505 := sf_ma tw2433 (p := 110) rfl
                                    have c2506 := sf_ma tw2433 (p := 109) rfl
                                    have c2507 := sf_mf tw2433 (p := 71) (j := 41) rfl
                                    have c2508 := sf_ma tw2433 (p := 68) rfl
                                    have c2509 := sf_ma tw2433 (p := 69) rfl
                                    have c2510 := sf_ma tw2433 (p := 70) rfl
                                    have c2511 := sf_ma tw2433 (p := 127) rfl
                                    have c2512 := sf_ma tw2433 (p := 128) rfl
                                    have c2513 := sf_ma tw2433 (p := 129) rfl
                                    have F0 := q2434_0
                                    have F1 := q2434_1
                                    have F2 := q2434_2
                                    have F3 := q2434_3
                                    have F4 := q2434_4
                                    have F5 := q2434_5
                                    clear q2434_0 q2434_1 q2434_2 q2434_3 q2434_4 q2434_5
                                    refine sf_istore (L' := [(0, .inl (.ref 100000)), (1, .inl (.ref 0)), (2, .inl (.ref 71)), (3, .inl (.ref 130)), (4, .inl (.int x4))]) rfl ?_
                                    refine sf_aload rfl ?_
                                    refine sf_aload rfl ?_
                                    refine sf_iload rfl ?_
                                    refine sf_iconst sf_c1 (fun z2514 ez2514 => ?_)
                                    refine sf_iadd (by omega) (fun v2515 ev2515 => ?_)
                                    refine sf_sldk (x := x4) (k := 1) (by omega) (by omega) (by omega) ?_
                                    clear ev2515 ez2514
                                    refine sf_aload rfl ?_
                                    refine sf_iload rfl ?_
                                    refine sf_iconst sf_c2 (fun z2516 ez2516 => ?_)
                                    refine sf_iadd (by omega) (fun v2517 ev2517 => ?_)
                                    refine sf_sldk (x := x4) (k := 2) (by omega) (by omega) (by omega) ?_
                                    clear ev2517 ez2516
                                    refine sf_aload rfl ?_
                                    refine sf_iload rfl ?_
                                    refine sf_iconst sf_c3 (fun z2518 ez2518 => ?_)
                                    refine sf_iadd (by omega) (fun v2519 ev2519 => ?_)
                                    refine sf_sldk (x := x4) (k := 3) (by omega) (by omega) (by omega) ?_
                                    clear ev2519 ez2518
                                    refine sf_aload rfl ?_
                                    refine sf_iload rfl ?_
                                    refine sf_iconst sf_c4 (fun z2520 ez2520 => ?_)
                                    refine sf_iadd (by omega) (fun v2521 ev2521 => ?_)
                                    refine sf_sldk (x := x4) (k := 4) (by omega) (by omega) (by omega) ?_
                                    clear ev2521 ez2520
                                    refine sf_aload rfl ?_
                                    refine sf_iload rfl ?_
                                    refine sf_iconst sf_c5 (fun z2522 ez2522 => ?_)
                                    refine sf_iadd (by omega) (fun v2523 ev2523 => ?_)
                                    refine sf_sldk (x := x4) (k := 5) (by omega) (by omega) (by omega) ?_
                                    clear ev2523 ez2522
                                    refine sf_aload rfl ?_
                                    refine sf_iload rfl ?_
                                    refine sf_iconst sf_c6 (fun z2524 ez2524 => ?_)
                                    refine sf_iadd (by omega) (fun v2525 ev2525 => ?_)
                                    refine sf_sldk (x := x4) (k := 6) (by omega) (by omega) (by omega) ?_
                                    clear ev2525 ez2524
                                    refine sf_aload rfl ?_
                                    refine sf_iload rfl ?_
                                    refine sf_iconst sf_c7 (fun z2526 ez2526 => ?_)
                                    refine sf_iadd (by omega) (fun v2527 ev2527 => ?_)
                                    refine sf_sldk (x := x4) (k := 7) (by omega) (by omega) (by omega) ?_
                                    clear ev2527 ez2526
                                    refine sf_f1_eq (fun h2528 => ?_) (fun h2528 => absurd h2528 (by omega))
                                    refine sf_iconst sf_c0 (fun z2529 ez2529 => ?_)
                                    refine sf_callv8 rfl (by omega) (by omega) ?_
                                    refine sf_rv Iw2433 rfl ?_
                                    refine sc_M_line Iw2433 (by omega) (by omega) (fun v2530 w2531 Iw2531 tw2531 lv2530 uv2530 q2532_0 q2532_1 q2532_2 q2532_3 q2532_4 q2532_5 => ?_)
                                    rw [c2500] at q2532_0
                                    rw [c2501] at q2532_0
                                    rw [c2444] at q2532_0
                                    rw [c2500] at q2532_1
                                    rw [c2503] at q2532_1
                                    rw [c2500] at q2532_2
                                    rw [c2504] at q2532_2
                                    rw [c2500] at q2532_3
                                    rw [c2506] at q2532_3
                                    rw [c2500] at q2532_4
                                    rw [c2500] at q2532_5
                                    rw [c2505] at q2532_5
                                    have c2533 := sf_mf tw2531 (p := 1) (j := 0) rfl
                                    have c2534 := sf_mf tw2531 (p := 71) (j := 1) rfl
                                    have c2535 := sf_mf tw2531 (p := 1) (j := 5) rfl
                                    have c2536 := sf_mf tw2531 (p := 71) (j := 5) rfl
                                    have c2537 := sf_mf tw2531 (p := 13) (j := 1) rfl
                                    have c2538 := sf_mf tw2531 (p := 71) (j := 10) rfl
                                    have c2539 := sf_mf tw2531 (p := 21) (j := 1) rfl
                                    have c2540 := sf_mf tw2531 (p := 71) (j := 18) rfl
                                    have c2541 := sf_mf tw2531 (p := 35) (j := 0) rfl
                                    have c2542 := sf_mf tw2531 (p := 71) (j := 35) rfl
                                    have c2543 := sf_ma tw2531 (p := 3) rfl
                                    have c2544 := sf_ma tw2531 (p := 72) rfl
                                    have c2545 := sf_mg tw2531 (p := 10) rfl
                                    have c2546 := sf_ma tw2531 (p := 93) rfl
                                    have c2547 := sf_mL tw2531 (p := 130) rfl
                                    have c2548 := sf_ma tw2531 (p := 2) rfl
                                    have c2549 := sf_ma tw2531 (p := 6) rfl
                                    have c2550 := sf_ma tw2531 (p := 75) rfl
                                    have c2551 := sf_ma tw2531 (p := 7) rfl
                                    have c2552 := sf_ma tw2531 (p := 76) rfl
                                    have c2553 := sf_ma tw2531 (p := 8) rfl
                                    have c2554 := sf_ma tw2531 (p := 77) rfl
                                    have c2555 := sf_ma tw2531 (p := 9) rfl
                                    have c2556 := sf_ma tw2531 (p := 78) rfl
                                    have c2557 := sf_ma tw2531 (p := 14) rfl
                                    have c2558 := sf_ma tw2531 (p := 79) rfl
                                    have c2559 := sf_ma tw2531 (p := 15) rfl
                                    have c2560 := sf_ma tw2531 (p := 80) rfl
                                    have c2561 := sf_ma tw2531 (p := 16) rfl
                                    have c2562 := sf_ma tw2531 (p := 81) rfl
                                    have c2563 := sf_ma tw2531 (p := 17) rfl
                                    have c2564 := sf_ma tw2531 (p := 82) rfl
                                    have c2565 := sf_ma tw2531 (p := 18) rfl
                                    have c2566 := sf_ma tw2531 (p := 83) rfl
                                    have c2567 := sf_ma tw2531 (p := 19) rfl
                                    have c2568 := sf_ma tw2531 (p := 84) rfl
                                    have c2569 := sf_ma tw2531 (p := 20) rfl
                                    have c2570 := sf_ma tw2531 (p := 85) rfl
                                    have c2571 := sf_ma tw2531 (p := 24) rfl
                                    have c2572 := sf_ma tw2531 (p := 86) rfl
                                    have c2573 := sf_ma tw2531 (p := 25) rfl
                                    have c2574 := sf_ma tw2531 (p := 87) rfl
                                    have c2575 := sf_ma tw2531 (p := 23) rfl
                                    have c2576 := sf_ma tw2531 (p := 88) rfl
                                    have c2577 := sf_ma tw2531 (p := 26) rfl
                                    have c2578 := sf_ma tw2531 (p := 89) rfl
                                    have c2579 := sf_ma tw2531 (p := 27) rfl
                                    have c2580 := sf_ma tw2531 (p := 90) rfl
                                    have c2581 := sf_ma tw2531 (p := 36) rfl
                                    have c2582 := sf_ma tw2531 (p := 102) rfl
                                    have c2583 := sf_ma tw2531 (p := 37) rfl
                                    have c2584 := sf_ma tw2531 (p := 103) rfl
                                    have c2585 := sf_mf tw2531 (p := 60) (j := 0) rfl
                                    have c2586 := sf_ma tw2531 (p := 61) rfl
                                    have c2587 := sf_ma tw2531 (p := 62) rfl
                                    have c2588 := sf_ma tw2531 (p := 63) rfl
                                    have c2589 := sf_ma tw2531 (p := 65) rfl
                                    have c2590 := sf_ma tw2531 (p := 66) rfl
                                    have c2591 := sf_mf tw2531 (p := 71) (j := 56) rfl
                                    have c2592 := sf_ma tw2531 (p := 121) rfl
                                    have c2593 := sf_ma tw2531 (p := 122) rfl
                                    have c2594 := sf_ma tw2531 (p := 123) rfl
                                    have c2595 := sf_ma tw2531 (p := 125) rfl
                                    have c2596 := sf_ma tw2531 (p := 126) rfl
                                    have c2597 := sf_ma tw2531 (p := 38) rfl
                                    have c2598 := sf_ma tw2531 (p := 40) rfl
                                    have c2599 := sf_ma tw2531 (p := 41) rfl
                                    have c2600 := sf_ma tw2531 (p := 42) rfl
                                    have c2601 := sf_ma tw2531 (p := 43) rfl
                                    have c2602 := sf_ma tw2531 (p := 44) rfl
                                    have c2603 := sf_ma tw2531 (p := 47) rfl
                                    have c2604 := sf_ma tw2531 (p := 106) rfl
                                    have c2605 := sf_ma tw2531 (p := 113) rfl
                                    have c2606 := sf_mf tw2531 (p := 71) (j := 41) rfl
                                    have c2607 := sf_ma tw2531 (p := 68) rfl
                                    have c2608 := sf_ma tw2531 (p := 69) rfl
                                    have c2609 := sf_ma tw2531 (p := 70) rfl
                                    have c2610 := sf_ma tw2531 (p := 127) rfl
                                    have c2611 := sf_ma tw2531 (p := 128) rfl
                                    have c2612 := sf_ma tw2531 (p := 129) rfl
                                    have G0 := q2532_0
                                    have G1 := q2532_1
                                    have G2 := q2532_2
                                    have G3 := q2532_3
                                    have G4 := q2532_4
                                    have G5 := q2532_5
                                    clear q2532_0 q2532_1 q2532_2 q2532_3 q2532_4 q2532_5
                                    have b12 := (sf_fb I_w (p := 71) (ci := 9) (j := 35) rfl rfl)
                                    have hda : 0 ≤ (xs (x4.toInt.toNat + 1)).toInt → (xs (x4.toInt.toNat + 1)).toInt < (sf_f w 71 35).toInt → (sf_a w 40 (xs (x4.toInt.toNat + 1)).toInt.toNat).toInt = (sf_a w 106 (xs (x4.toInt.toNat + 1)).toInt.toNat).toInt := fun h1 h2 => by rw [f_23.2.1 _ (by omega)]
                                    have hdl : 0 ≤ (xs (x4.toInt.toNat + 1)).toInt → (xs (x4.toInt.toNat + 1)).toInt < (sf_f w 71 35).toInt → (sf_a w 38 (xs (x4.toInt.toNat + 1)).toInt.toNat).toInt = (sf_a w 104 (xs (x4.toInt.toNat + 1)).toInt.toNat).toInt := fun h1 h2 => by rw [f_23.1 _ (by omega)]
                                    have hrc : v2432.toInt = (sf_f w2531 71 0).toInt := by omega
                                    have hix : v2432.toInt = 0 → 4 * (xs (x4.toInt.toNat + 1)).toInt + (sf_a w 38 (xs (x4.toInt.toNat + 1)).toInt.toNat).toInt = 4 * (xs (x4.toInt.toNat + 1)).toInt + (sf_a w 104 (xs (x4.toInt.toNat + 1)).toInt.toNat).toInt := fun h9 => by have h8 := hdl (by omega) (by omega); omega
                                    have hRD : sl_RD (sf_a w2433 38) (sf_a w2531 104) (sf_a w 40) (sf_a w 106) (sf_a w2433 42) (sf_a w2531 107) (sf_a w2433 43) (sf_a w2531 108) (sf_a w2433 47) (sf_a w2531 109) (sf_a w2433 44) (sf_a w2531 110) := ⟨sl_QUL f_23.1 F5 G4 rfl hrc (fun h9 => by omega), f_23.2.1, sl_QU f_23.2.2.1 F1 G1 hix hrc rfl, sl_QU f_23.2.2.2.1 F2 G2 hix hrc rfl, sl_QU f_23.2.2.2.2.1 F4 G3 hix hrc (by omega), sl_Q3U f_23.2.2.2.2.2 F3 G5 hix hrc rfl⟩
                                    have hRF : sl_RF (sf_a w 40) (sf_a w2433 38) (sf_a w 41) (sf_a w 113) := sl_RFU f_24 F5 (fun h9 => by omega)
                                    clear F1 F2 F3 F4 F5 G1 G2 G3 G4 G5 hix
                                    refine sf_istore (L' := [(5, .inl (.int v2432)), (0, .inl (.ref 100000)), (1, .inl (.ref 0)), (2, .inl (.ref 71)), (3, .inl (.ref 130)), (4, .inl (.int x4))]) rfl ?_
                                    refine sf_aload rfl ?_
                                    refine sf_callv1 rfl (by omega) (by omega) ?_
                                    refine sf_rv Iw2531 rfl ?_
                                    refine sf_sp (L := [(0, .inl (.ref 71))]) rfl rfl ?_
                                    refine sf_aload rfl ?_
                                    refine sf_geti Iw2531 rfl rfl (fun v2613 lv2613 uv2613 ev2613 => ?_)
                                    refine sf_ireturn rfl rfl ?_
                                    refine sf_iload rfl ?_
                                    refine sf_f2_eq (fun h2614 => ?_) (fun h2614 => ?_)
                                    · refine sf_iload rfl ?_
                                      refine sf_f1_eq (fun h2615 => ?_) (fun h2615 => ?_)
                                      · refine sf_aload rfl ?_
                                        refine sf_iconst sf_c0 (fun z2616 ez2616 => ?_)
                                        refine sf_lald Iw2531 rfl (by omega) (fun v2617 ev2617 => ?_)
                                        rw [c2547] at ev2617
                                        rw [show z2616.toInt.toNat = 0 by omega] at ev2617
                                        refine sf_iload rfl ?_
                                        refine sf_i2l (fun v2618 ev2618 => ?_)
                                        refine sf_fl_eq (fun h2619 => ?_) (fun h2619 => ?_)
                                        · show kt_W_law_1421 N xs K _ _ _ _ _
                                          refine sf_iinc (L' := [(6, .inl (.int v2530)), (5, .inl (.int v2432)), (0, .inl (.ref 100000)), (1, .inl (.ref 0)), (2, .inl (.ref 71)), (3, .inl (.ref 130))]) (x := x4) sf_c8 rfl rfl (by omega) (fun v2620 ev2620 => ?_)
                                          refine sf_can (L' := [(0, .inl (.ref 100000)), (1, .inl (.ref 0)), (2, .inl (.ref 71)), (3, .inl (.ref 130)), (4, .inl (.int v2620))]) rfl ?_
                                          exact ih _ _ _ _ Iw2531 (by omega) (by omega) (by omega) (by omega) (by rw [c2533, c2435]; rw [c2534, c2436]; rw [c2535, c2437]; rw [c2536, c2438]; rw [c2537, c2439]; rw [c2538, c2440]; rw [c2539, c2441]; rw [c2540, c2442]; rw [c2541, c2443]; rw [c2542, c2444]; omega) (by rw [c2543, c2445]; rw [c2544, c2446]; rw [c2534, c2436]; first | exact f_1 | exact hJ) (by rw [c2545, c2447]; rw [c2546, c2448]; first | exact f_2 | exact hK2) (by rw [c2548, c2449]; rw [c2544, c2446]; rw [c2534, c2436]; first | exact f_3 | exact hQ2) (by rw [c2549, c2450]; rw [c2550, c2451]; rw [c2536, c2438]; first | exact f_4 | exact hQ6) (by rw [c2551, c2452]; rw [c2552, c2453]; rw [c2536, c2438]; first | exact f_5 | exact hQ7) (by rw [c2553, c2454]; rw [c2554, c2455]; rw [c2536, c2438]; first | exact f_6 | exact hQ8) (by rw [c2555, c2456]; rw [c2556, c2457]; rw [c2536, c2438]; first | exact f_7 | exact hQ9) (by rw [c2557, c2458]; rw [c2558, c2459]; rw [c2538, c2440]; first | exact f_8 | exact hQ14) (by rw [c2559, c2460]; rw [c2560, c2461]; rw [c2538, c2440]; first | exact f_9 | exact hQ15) (by rw [c2561, c2462]; rw [c2562, c2463]; rw [c2538, c2440]; first | exact f_10 | exact hQ16) (by rw [c2563, c2464]; rw [c2564, c2465]; rw [c2538, c2440]; first | exact f_11 | exact hQ17) (by rw [c2565, c2466]; rw [c2566, c2467]; rw [c2538, c2440]; first | exact f_12 | exact hQ18) (by rw [c2567, c2468]; rw [c2568, c2469]; rw [c2538, c2440]; first | exact f_13 | exact hQ19) (by rw [c2569, c2470]; rw [c2570, c2471]; rw [c2538, c2440]; first | exact f_14 | exact hQ20) (by rw [c2571, c2472]; rw [c2572, c2473]; rw [c2540, c2442]; first | exact f_15 | exact hQ24) (by rw [c2573, c2474]; rw [c2574, c2475]; rw [c2540, c2442]; first | exact f_16 | exact hQ25) (by rw [c2575, c2476]; rw [c2576, c2477]; rw [c2540, c2442]; first | exact f_17 | exact hQ23) (by rw [c2577, c2478]; rw [c2578, c2479]; rw [c2540, c2442]; first | exact f_18 | exact hQ26) (by rw [c2579, c2480]; rw [c2580, c2481]; rw [c2540, c2442]; first | exact f_19 | exact hQ27) (by rw [c2581, c2482]; rw [c2582, c2483]; rw [c2542, c2444]; first | exact f_20 | exact hQ36) (by rw [c2583, c2484]; rw [c2584, c2485]; rw [c2542, c2444]; first | exact f_21 | exact hQ37) (by rw [c2585, c2486]; rw [c2591, c2492]; rw [c2586, c2487]; rw [c2587, c2488]; rw [c2588, c2489]; rw [c2589, c2490]; rw [c2590, c2491]; rw [c2592, c2493]; rw [c2593, c2494]; rw [c2594, c2495]; rw [c2595, c2496]; rw [c2596, c2497]; exact f_22) (by rw [c2597]; rw [c2598, c2498]; rw [c2604, c2501]; rw [c2600]; rw [c2601]; rw [c2603]; rw [c2602]; exact hRD) (by rw [c2598, c2498]; rw [c2597]; rw [c2599, c2499]; rw [c2605, c2502]; exact hRF) (by rw [c2582, c2483]; rw [c2584, c2485]; rw [c2604, c2501]; rw [c2542, c2444]; rw [c2606, c2507]; exact f_25) (by rw [c2604, c2501]; rw [c2542, c2444]; exact f_26) (by rw [c2607, c2508]; rw [c2610, c2511]; rw [c2608, c2509]; rw [c2611, c2512]; rw [c2609, c2510]; rw [c2612, c2513]; exact f_27) (by omega)
                                        · refine sf_iconst sf_c0 (fun z2621 ez2621 => ?_)
                                          exact sf_lend (by omega) (by omega) (by omega)
                                      · show kt_W_law_1421 N xs K _ _ _ _ _
                                        refine sf_iinc (L' := [(6, .inl (.int v2530)), (5, .inl (.int v2432)), (0, .inl (.ref 100000)), (1, .inl (.ref 0)), (2, .inl (.ref 71)), (3, .inl (.ref 130))]) (x := x4) sf_c8 rfl rfl (by omega) (fun v2622 ev2622 => ?_)
                                        refine sf_can (L' := [(0, .inl (.ref 100000)), (1, .inl (.ref 0)), (2, .inl (.ref 71)), (3, .inl (.ref 130)), (4, .inl (.int v2622))]) rfl ?_
                                        exact ih _ _ _ _ Iw2531 (by omega) (by omega) (by omega) (by omega) (by rw [c2533, c2435]; rw [c2534, c2436]; rw [c2535, c2437]; rw [c2536, c2438]; rw [c2537, c2439]; rw [c2538, c2440]; rw [c2539, c2441]; rw [c2540, c2442]; rw [c2541, c2443]; rw [c2542, c2444]; omega) (by rw [c2543, c2445]; rw [c2544, c2446]; rw [c2534, c2436]; first | exact f_1 | exact hJ) (by rw [c2545, c2447]; rw [c2546, c2448]; first | exact f_2 | exact hK2) (by rw [c2548, c2449]; rw [c2544, c2446]; rw [c2534, c2436]; first | exact f_3 | exact hQ2) (by rw [c2549, c2450]; rw [c2550, c2451]; rw [c2536, c2438]; first | exact f_4 | exact hQ6) (by rw [c2551, c2452]; rw [c2552, c2453]; rw [c2536, c2438]; first | exact f_5 | exact hQ7) (by rw [c2553, c2454]; rw [c2554, c2455]; rw [c2536, c2438]; first | exact f_6 | exact hQ8) (by rw [c2555, c2456]; rw [c2556, c2457]; rw [c2536, c2438]; first | exact f_7 | exact hQ9) (by rw [c2557, c2458]; rw [c2558, c2459]; rw [c2538, c2440]; first | exact f_8 | exact hQ14) (by rw [c2559, c2460]; rw [c2560, c2461]; rw [c2538, c2440]; first | exact f_9 | exact hQ15) (by rw [c2561, c2462]; rw [c2562, c2463]; rw [c2538, c2440]; first | exact f_10 | exact hQ16) (by rw [c2563, c2464]; rw [c2564, c2465]; rw [c2538, c2440]; first | exact f_11 | exact hQ17) (by rw [c2565, c2466]; rw [c2566, c2467]; rw [c2538, c2440]; first | exact f_12 | exact hQ18) (by rw [c2567, c2468]; rw [c2568, c2469]; rw [c2538, c2440]; first | exact f_13 | exact hQ19) (by rw [c2569, c2470]; rw [c2570, c2471]; rw [c2538, c2440]; first | exact f_14 | exact hQ20) (by rw [c2571, c2472]; rw [c2572, c2473]; rw [c2540, c2442]; first | exact f_15 | exact hQ24) (by rw [c2573, c2474]; rw [c2574, c2475]; rw [c2540, c2442]; first | exact f_16 | exact hQ25) (by rw [c2575, c2476]; rw [c2576, c2477]; rw [c2540, c2442]; first | exact f_17 | exact hQ23) (by rw [c2577, c2478]; rw [c2578, c2479]; rw [c2540, c2442]; first | exact f_18 | exact hQ26) (by rw [c2579, c2480]; rw [c2580, c2481]; rw [c2540, c2442]; first | exact f_19 | exact hQ27) (by rw [c2581, c2482]; rw [c2582, c2483]; rw [c2542, c2444]; first | exact f_20 | exact hQ36) (by rw [c2583, c2484]; rw [c2584, c2485]; rw [c2542, c2444]; first | exact f_21 | exact hQ37) (by rw [c2585, c2486]; rw [c2591, c2492]; rw [c2586, c2487]; rw [c2587, c2488]; rw [c2588, c2489]; rw [c2589, c2490]; rw [c2590, c2491]; rw [c2592, c2493]; rw [c2593, c2494]; rw [c2594, c2495]; rw [c2595, c2496]; rw [c2596, c2497]; exact f_22) (by rw [c2597]; rw [c2598, c2498]; rw [c2604, c2501]; rw [c2600]; rw [c2601]; rw [c2603]; rw [c2602]; exact hRD) (by rw [c2598, c2498]; rw [c2597]; rw [c2599, c2499]; rw [c2605, c2502]; exact hRF) (by rw [c2582, c2483]; rw [c2584, c2485]; rw [c2604, c2501]; rw [c2542, c2444]; rw [c2606, c2507]; exact f_25) (by rw [c2604, c2501]; rw [c2542, c2444]; exact f_26) (by rw [c2607, c2508]; rw [c2610, c2511]; rw [c2608, c2509]; rw [c2611, c2512]; rw [c2609, c2510]; rw [c2612, c2513]; exact f_27) (by omega)
                                    · refine sf_iconst sf_c0 (fun z2623 ez2623 => ?_)
                                      exact sf_lend (by omega) (by omega) (by omega)
                                  · refine sf_iconst sf_c1 (fun z2624 ez2624 => ?_)
                                    show kt_W_law_881 N xs K _ _ _ _ _
                                    refine sf_aload rfl ?_
                                    refine sf_callv9 rfl (by omega) (by omega) ?_
                                    refine sc_W_line_0_130 I_w (by omega) (by omega) (fun v2625 w2626 Iw2626 tw2626 lv2625 uv2625 q2627_0 q2627_1 q2627_2 q2627_3 q2627_4 q2627_5 => ?_)
                                    have c2628 := sf_mf tw2626 (p := 1) (j := 0) rfl
                                    have c2629 := sf_mf tw2626 (p := 71) (j := 1) rfl
                                    have c2630 := sf_mf tw2626 (p := 1) (j := 5) rfl
                                    have c2631 := sf_mf tw2626 (p := 71) (j := 5) rfl
                                    have c2632 := sf_mf tw2626 (p := 13) (j := 1) rfl
                                    have c2633 := sf_mf tw2626 (p := 71) (j := 10) rfl
                                    have c2634 := sf_mf tw2626 (p := 21) (j := 1) rfl
                                    have c2635 := sf_mf tw2626 (p := 71) (j := 18) rfl
                                    have c2636 := sf_mf tw2626 (p := 35) (j := 0) rfl
                                    have c2637 := sf_mf tw2626 (p := 71) (j := 35) rfl
                                    have c2638 := sf_ma tw2626 (p := 3) rfl
                                    have c2639 := sf_ma tw2626 (p := 72) rfl
                                    have c2640 := sf_mg tw2626 (p := 10) rfl
                                    have c2641 := sf_ma tw2626 (p := 93) rfl
                                    have c2642 := sf_ma tw2626 (p := 2) rfl
                                    have c2643 := sf_ma tw2626 (p := 6) rfl
                                    have c2644 := sf_ma tw2626 (p := 75) rfl
                                    have c2645 := sf_ma tw2626 (p := 7) rfl
                                    have c2646 := sf_ma tw2626 (p := 76) rfl
                                    have c2647 := sf_ma tw2626 (p := 8) rfl
                                    have c2648 := sf_ma tw2626 (p := 77) rfl
                                    have c2649 := sf_ma tw2626 (p := 9) rfl
                                    have c2650 := sf_ma tw2626 (p := 78) rfl
                                    have c2651 := sf_ma tw2626 (p := 14) rfl
                                    have c2652 := sf_ma tw2626 (p := 79) rfl
                                    have c2653 := sf_ma tw2626 (p := 15) rfl
                                    have c2654 := sf_ma tw2626 (p := 80) rfl
                                    have c2655 := sf_ma tw2626 (p := 16) rfl
                                    have c2656 := sf_ma tw2626 (p := 81) rfl
                                    have c2657 := sf_ma tw2626 (p := 17) rfl
                                    have c2658 := sf_ma tw2626 (p := 82) rfl
                                    have c2659 := sf_ma tw2626 (p := 18) rfl
                                    have c2660 := sf_ma tw2626 (p := 83) rfl
                                    have c2661 := sf_ma tw2626 (p := 19) rfl
                                    have c2662 := sf_ma tw2626 (p := 84) rfl
                                    have c2663 := sf_ma tw2626 (p := 20) rfl
                                    have c2664 := sf_ma tw2626 (p := 85) rfl
                                    have c2665 := sf_ma tw2626 (p := 24) rfl
                                    have c2666 := sf_ma tw2626 (p := 86) rfl
                                    have c2667 := sf_ma tw2626 (p := 25) rfl
                                    have c2668 := sf_ma tw2626 (p := 87) rfl
                                    have c2669 := sf_ma tw2626 (p := 23) rfl
                                    have c2670 := sf_ma tw2626 (p := 88) rfl
                                    have c2671 := sf_ma tw2626 (p := 26) rfl
                                    have c2672 := sf_ma tw2626 (p := 89) rfl
                                    have c2673 := sf_ma tw2626 (p := 27) rfl
                                    have c2674 := sf_ma tw2626 (p := 90) rfl
                                    have c2675 := sf_ma tw2626 (p := 36) rfl
                                    have c2676 := sf_ma tw2626 (p := 102) rfl
                                    have c2677 := sf_ma tw2626 (p := 37) rfl
                                    have c2678 := sf_ma tw2626 (p := 103) rfl
                                    have c2679 := sf_mf tw2626 (p := 60) (j := 0) rfl
                                    have c2680 := sf_ma tw2626 (p := 61) rfl
                                    have c2681 := sf_ma tw2626 (p := 62) rfl
                                    have c2682 := sf_ma tw2626 (p := 63) rfl
                                    have c2683 := sf_ma tw2626 (p := 65) rfl
                                    have c2684 := sf_ma tw2626 (p := 66) rfl
                                    have c2685 := sf_mf tw2626 (p := 71) (j := 56) rfl
                                    have c2686 := sf_ma tw2626 (p := 121) rfl
                                    have c2687 := sf_ma tw2626 (p := 122) rfl
                                    have c2688 := sf_ma tw2626 (p := 123) rfl
                                    have c2689 := sf_ma tw2626 (p := 125) rfl
                                    have c2690 := sf_ma tw2626 (p := 126) rfl
                                    have c2691 := sf_ma tw2626 (p := 40) rfl
                                    have c2692 := sf_ma tw2626 (p := 41) rfl
                                    have c2693 := sf_ma tw2626 (p := 104) rfl
                                    have c2694 := sf_ma tw2626 (p := 106) rfl
                                    have c2695 := sf_ma tw2626 (p := 113) rfl
                                    have c2696 := sf_ma tw2626 (p := 107) rfl
                                    have c2697 := sf_ma tw2626 (p := 108) rfl
                                    have c2698 := sf_ma tw2626 (p := 110) rfl
                                    have c2699 := sf_ma tw2626 (p := 109) rfl
                                    have c2700 := sf_mf tw2626 (p := 71) (j := 41) rfl
                                    have c2701 := sf_ma tw2626 (p := 68) rfl
                                    have c2702 := sf_ma tw2626 (p := 69) rfl
                                    have c2703 := sf_ma tw2626 (p := 70) rfl
                                    have c2704 := sf_ma tw2626 (p := 127) rfl
                                    have c2705 := sf_ma tw2626 (p := 128) rfl
                                    have c2706 := sf_ma tw2626 (p := 129) rfl
                                    have F0 := q2627_0
                                    have F1 := q2627_1
                                    have F2 := q2627_2
                                    have F3 := q2627_3
                                    have F4 := q2627_4
                                    have F5 := q2627_5
                                    clear q2627_0 q2627_1 q2627_2 q2627_3 q2627_4 q2627_5
                                    refine sf_istore (L' := [(0, .inl (.ref 100000)), (1, .inl (.ref 0)), (2, .inl (.ref 71)), (3, .inl (.ref 130)), (4, .inl (.int x4))]) rfl ?_
                                    refine sf_aload rfl ?_
                                    refine sf_aload rfl ?_
                                    refine sf_iload rfl ?_
                                    refine sf_iconst sf_c1 (fun z2707 ez2707 => ?_)
                                    refine sf_iadd (by omega) (fun v2708 ev2708 => ?_)
                                    refine sf_sldk (x := x4) (k := 1) (by omega) (by omega) (by omega) ?_
                                    clear ev2708 ez2707
                                    refine sf_aload rfl ?_
                                    refine sf_iload rfl ?_
                                    refine sf_iconst sf_c2 (fun z2709 ez2709 => ?_)
                                    refine sf_iadd (by omega) (fun v2710 ev2710 => ?_)
                                    refine sf_sldk (x := x4) (k := 2) (by omega) (by omega) (by omega) ?_
                                    clear ev2710 ez2709
                                    refine sf_aload rfl ?_
                                    refine sf_iload rfl ?_
                                    refine sf_iconst sf_c3 (fun z2711 ez2711 => ?_)
                                    refine sf_iadd (by omega) (fun v2712 ev2712 => ?_)
                                    refine sf_sldk (x := x4) (k := 3) (by omega) (by omega) (by omega) ?_
                                    clear ev2712 ez2711
                                    refine sf_aload rfl ?_
                                    refine sf_iload rfl ?_
                                    refine sf_iconst sf_c4 (fun z2713 ez2713 => ?_)
                                    refine sf_iadd (by omega) (fun v2714 ev2714 => ?_)
                                    refine sf_sldk (x := x4) (k := 4) (by omega) (by omega) (by omega) ?_
                                    clear ev2714 ez2713
                                    refine sf_aload rfl ?_
                                    refine sf_iload rfl ?_
                                    refine sf_iconst sf_c5 (fun z2715 ez2715 => ?_)
                                    refine sf_iadd (by omega) (fun v2716 ev2716 => ?_)
                                    refine sf_sldk (x := x4) (k := 5) (by omega) (by omega) (by omega) ?_
                                    clear ev2716 ez2715
                                    refine sf_aload rfl ?_
                                    refine sf_iload rfl ?_
                                    refine sf_iconst sf_c6 (fun z2717 ez2717 => ?_)
                                    refine sf_iadd (by omega) (fun v2718 ev2718 => ?_)
                                    refine sf_sldk (x := x4) (k := 6) (by omega) (by omega) (by omega) ?_
                                    clear ev2718 ez2717
                                    refine sf_aload rfl ?_
                                    refine sf_iload rfl ?_
                                    refine sf_iconst sf_c7 (fun z2719 ez2719 => ?_)
                                    refine sf_iadd (by omega) (fun v2720 ev2720 => ?_)
                                    refine sf_sldk (x := x4) (k := 7) (by omega) (by omega) (by omega) ?_
                                    clear ev2720 ez2719
                                    refine sf_f1_eq (fun h2721 => ?_) (fun h2721 => ?_)
                                    · refine sf_iconst sf_c0 (fun z2722 ez2722 => ?_)
                                      refine sf_callv8 rfl (by omega) (by omega) ?_
                                      refine sf_rv Iw2626 rfl ?_
                                      refine sc_M_line Iw2626 (by omega) (by omega) (fun v2723 w2724 Iw2724 tw2724 lv2723 uv2723 q2725_0 q2725_1 q2725_2 q2725_3 q2725_4 q2725_5 => ?_)
                                      rw [c2693] at q2725_0
                                      rw [c2694] at q2725_0
                                      rw [c2637] at q2725_0
                                      rw [c2693] at q2725_1
                                      rw [c2696] at q2725_1
                                      rw [c2693] at q2725_2
                                      rw [c2697] at q2725_2
                                      rw [c2693] at q2725_3
                                      rw [c2699] at q2725_3
                                      rw [c2693] at q2725_4
                                      rw [c2693] at q2725_5
                                      rw [c2698] at q2725_5
                                      have c2726 := sf_mf tw2724 (p := 1) (j := 0) rfl
                                      have c2727 := sf_mf tw2724 (p := 71) (j := 1) rfl
                                      have c2728 := sf_mf tw2724 (p := 1) (j := 5) rfl
                                      have c2729 := sf_mf tw2724 (p := 71) (j := 5) rfl
                                      have c2730 := sf_mf tw2724 (p := 13) (j := 1) rfl
                                      have c2731 := sf_mf tw2724 (p := 71) (j := 10) rfl
                                      have c2732 := sf_mf tw2724 (p := 21) (j := 1) rfl
                                      have c2733 := sf_mf tw2724 (p := 71) (j := 18) rfl
                                      have c2734 := sf_mf tw2724 (p := 35) (j := 0) rfl
                                      have c2735 := sf_mf tw2724 (p := 71) (j := 35) rfl
                                      have c2736 := sf_ma tw2724 (p := 3) rfl
                                      have c2737 := sf_ma tw2724 (p := 72) rfl
                                      have c2738 := sf_mg tw2724 (p := 10) rfl
                                      have c2739 := sf_ma tw2724 (p := 93) rfl
                                      have c2740 := sf_mL tw2724 (p := 130) rfl
                                      have c2741 := sf_ma tw2724 (p := 2) rfl
                                      have c2742 := sf_ma tw2724 (p := 6) rfl
                                      have c2743 := sf_ma tw2724 (p := 75) rfl
                                      have c2744 := sf_ma tw2724 (p := 7) rfl
                                      have c2745 := sf_ma tw2724 (p := 76) rfl
                                      have c2746 := sf_ma tw2724 (p := 8) rfl
                                      have c2747 := sf_ma tw2724 (p := 77) rfl
                                      have c2748 := sf_ma tw2724 (p := 9) rfl
                                      have c2749 := sf_ma tw2724 (p := 78) rfl
                                      have c2750 := sf_ma tw2724 (p := 14) rfl
                                      have c2751 := sf_ma tw2724 (p := 79) rfl
                                      have c2752 := sf_ma tw2724 (p := 15) rfl
                                      have c2753 := sf_ma tw2724 (p := 80) rfl
                                      have c2754 := sf_ma tw2724 (p := 16) rfl
                                      have c2755 := sf_ma tw2724 (p := 81) rfl
                                      have c2756 := sf_ma tw2724 (p := 17) rfl
                                      have c2757 := sf_ma tw2724 (p := 82) rfl
                                      have c2758 := sf_ma tw2724 (p := 18) rfl
                                      have c2759 := sf_ma tw2724 (p := 83) rfl
                                      have c2760 := sf_ma tw2724 (p := 19) rfl
                                      have c2761 := sf_ma tw2724 (p := 84) rfl
                                      have c2762 := sf_ma tw2724 (p := 20) rfl
                                      have c2763 := sf_ma tw2724 (p := 85) rfl
                                      have c2764 := sf_ma tw2724 (p := 24) rfl
                                      have c2765 := sf_ma tw2724 (p := 86) rfl
                                      have c2766 := sf_ma tw2724 (p := 25) rfl
                                      have c2767 := sf_ma tw2724 (p := 87) rfl
                                      have c2768 := sf_ma tw2724 (p := 23) rfl
                                      have c2769 := sf_ma tw2724 (p := 88) rfl
                                      have c2770 := sf_ma tw2724 (p := 26) rfl
                                      have c2771 := sf_ma tw2724 (p := 89) rfl
                                      have c2772 := sf_ma tw2724 (p := 27) rfl
                                      have c2773 := sf_ma tw2724 (p := 90) rfl
                                      have c2774 := sf_ma tw2724 (p := 36) rfl
                                      have c2775 := sf_ma tw2724 (p := 102) rfl
                                      have c2776 := sf_ma tw2724 (p := 37) rfl
                                      have c2777 := sf_ma tw2724 (p := 103) rfl
                                      have c2778 := sf_mf tw2724 (p := 60) (j := 0) rfl
                                      have c2779 := sf_ma tw2724 (p := 61) rfl
                                      have c2780 := sf_ma tw2724 (p := 62) rfl
                                      have c2781 := sf_ma tw2724 (p := 63) rfl
                                      have c2782 := sf_ma tw2724 (p := 65) rfl
                                      have c2783 := sf_ma tw2724 (p := 66) rfl
                                      have c2784 := sf_mf tw2724 (p := 71) (j := 56) rfl
                                      have c2785 := sf_ma tw2724 (p := 121) rfl
                                      have c2786 := sf_ma tw2724 (p := 122) rfl
                                      have c2787 := sf_ma tw2724 (p := 123) rfl
                                      have c2788 := sf_ma tw2724 (p := 125) rfl
                                      have c2789 := sf_ma tw2724 (p := 126) rfl
                                      have c2790 := sf_ma tw2724 (p := 38) rfl
                                      have c2791 := sf_ma tw2724 (p := 40) rfl
                                      have c2792 := sf_ma tw2724 (p := 41) rfl
                                      have c2793 := sf_ma tw2724 (p := 42) rfl
                                      have c2794 := sf_ma tw2724 (p := 43) rfl
                                      have c2795 := sf_ma tw2724 (p := 44) rfl
                                      have c2796 := sf_ma tw2724 (p := 47) rfl
                                      have c2797 := sf_ma tw2724 (p := 106) rfl
                                      have c2798 := sf_ma tw2724 (p := 113) rfl
                                      have c2799 := sf_mf tw2724 (p := 71) (j := 41) rfl
                                      have c2800 := sf_ma tw2724 (p := 68) rfl
                                      have c2801 := sf_ma tw2724 (p := 69) rfl
                                      have c2802 := sf_ma tw2724 (p := 70) rfl
                                      have c2803 := sf_ma tw2724 (p := 127) rfl
                                      have c2804 := sf_ma tw2724 (p := 128) rfl
                                      have c2805 := sf_ma tw2724 (p := 129) rfl
                                      have G0 := q2725_0
                                      have G1 := q2725_1
                                      have G2 := q2725_2
                                      have G3 := q2725_3
                                      have G4 := q2725_4
                                      have G5 := q2725_5
                                      clear q2725_0 q2725_1 q2725_2 q2725_3 q2725_4 q2725_5
                                      have b12 := (sf_fb I_w (p := 71) (ci := 9) (j := 35) rfl rfl)
                                      have hda : 0 ≤ (xs (x4.toInt.toNat + 1)).toInt → (xs (x4.toInt.toNat + 1)).toInt < (sf_f w 71 35).toInt → (sf_a w 40 (xs (x4.toInt.toNat + 1)).toInt.toNat).toInt = (sf_a w 106 (xs (x4.toInt.toNat + 1)).toInt.toNat).toInt := fun h1 h2 => by rw [f_23.2.1 _ (by omega)]
                                      have hdl : 0 ≤ (xs (x4.toInt.toNat + 1)).toInt → (xs (x4.toInt.toNat + 1)).toInt < (sf_f w 71 35).toInt → (sf_a w 38 (xs (x4.toInt.toNat + 1)).toInt.toNat).toInt = (sf_a w 104 (xs (x4.toInt.toNat + 1)).toInt.toNat).toInt := fun h1 h2 => by rw [f_23.1 _ (by omega)]
                                      have hrc : v2625.toInt = (sf_f w2724 71 0).toInt := by omega
                                      have hix : v2625.toInt = 0 → 4 * (xs (x4.toInt.toNat + 1)).toInt + (sf_a w 38 (xs (x4.toInt.toNat + 1)).toInt.toNat).toInt = 4 * (xs (x4.toInt.toNat + 1)).toInt + (sf_a w 104 (xs (x4.toInt.toNat + 1)).toInt.toNat).toInt := fun h9 => by have h8 := hdl (by omega) (by omega); omega
                                      have hRD : sl_RD (sf_a w2626 38) (sf_a w2724 104) (sf_a w 40) (sf_a w 106) (sf_a w2626 42) (sf_a w2724 107) (sf_a w2626 43) (sf_a w2724 108) (sf_a w2626 47) (sf_a w2724 109) (sf_a w2626 44) (sf_a w2724 110) := ⟨sl_QUL f_23.1 F5 G4 rfl hrc (fun h9 => by omega), f_23.2.1, sl_QU f_23.2.2.1 F1 G1 hix hrc rfl, sl_QU f_23.2.2.2.1 F2 G2 hix hrc rfl, sl_QU f_23.2.2.2.2.1 F4 G3 hix hrc (by omega), sl_Q3U f_23.2.2.2.2.2 F3 G5 hix hrc rfl⟩
                                      have hRF : sl_RF (sf_a w 40) (sf_a w2626 38) (sf_a w 41) (sf_a w 113) := sl_RFU f_24 F5 (fun h9 => by omega)
                                      clear F1 F2 F3 F4 F5 G1 G2 G3 G4 G5 hix
                                      refine sf_istore (L' := [(5, .inl (.int v2625)), (0, .inl (.ref 100000)), (1, .inl (.ref 0)), (2, .inl (.ref 71)), (3, .inl (.ref 130)), (4, .inl (.int x4))]) rfl ?_
                                      refine sf_aload rfl ?_
                                      refine sf_callv1 rfl (by omega) (by omega) ?_
                                      refine sf_rv Iw2724 rfl ?_
                                      refine sf_sp (L := [(0, .inl (.ref 71))]) rfl rfl ?_
                                      refine sf_aload rfl ?_
                                      refine sf_geti Iw2724 rfl rfl (fun v2806 lv2806 uv2806 ev2806 => ?_)
                                      refine sf_ireturn rfl rfl ?_
                                      refine sf_iload rfl ?_
                                      refine sf_f2_eq (fun h2807 => ?_) (fun h2807 => ?_)
                                      · refine sf_iload rfl ?_
                                        refine sf_f1_eq (fun h2808 => ?_) (fun h2808 => ?_)
                                        · refine sf_aload rfl ?_
                                          refine sf_iconst sf_c0 (fun z2809 ez2809 => ?_)
                                          refine sf_lald Iw2724 rfl (by omega) (fun v2810 ev2810 => ?_)
                                          rw [c2740] at ev2810
                                          rw [show z2809.toInt.toNat = 0 by omega] at ev2810
                                          refine sf_iload rfl ?_
                                          refine sf_i2l (fun v2811 ev2811 => ?_)
                                          refine sf_fl_eq (fun h2812 => ?_) (fun h2812 => ?_)
                                          · show kt_W_law_1421 N xs K _ _ _ _ _
                                            refine sf_iinc (L' := [(6, .inl (.int v2723)), (5, .inl (.int v2625)), (0, .inl (.ref 100000)), (1, .inl (.ref 0)), (2, .inl (.ref 71)), (3, .inl (.ref 130))]) (x := x4) sf_c8 rfl rfl (by omega) (fun v2813 ev2813 => ?_)
                                            refine sf_can (L' := [(0, .inl (.ref 100000)), (1, .inl (.ref 0)), (2, .inl (.ref 71)), (3, .inl (.ref 130)), (4, .inl (.int v2813))]) rfl ?_
                                            exact ih _ _ _ _ Iw2724 (by omega) (by omega) (by omega) (by omega) (by rw [c2726, c2628]; rw [c2727, c2629]; rw [c2728, c2630]; rw [c2729, c2631]; rw [c2730, c2632]; rw [c2731, c2633]; rw [c2732, c2634]; rw [c2733, c2635]; rw [c2734, c2636]; rw [c2735, c2637]; omega) (by rw [c2736, c2638]; rw [c2737, c2639]; rw [c2727, c2629]; first | exact f_1 | exact hJ) (by rw [c2738, c2640]; rw [c2739, c2641]; first | exact f_2 | exact hK2) (by rw [c2741, c2642]; rw [c2737, c2639]; rw [c2727, c2629]; first | exact f_3 | exact hQ2) (by rw [c2742, c2643]; rw [c2743, c2644]; rw [c2729, c2631]; first | exact f_4 | exact hQ6) (by rw [c2744, c2645]; rw [c2745, c2646]; rw [c2729, c2631]; first | exact f_5 | exact hQ7) (by rw [c2746, c2647]; rw [c2747, c2648]; rw [c2729, c2631]; first | exact f_6 | exact hQ8) (by rw [c2748, c2649]; rw [c2749, c2650]; rw [c2729, c2631]; first | exact f_7 | exact hQ9) (by rw [c2750, c2651]; rw [c2751, c2652]; rw [c2731, c2633]; first | exact f_8 | exact hQ14) (by rw [c2752, c2653]; rw [c2753, c2654]; rw [c2731, c2633]; first | exact f_9 | exact hQ15) (by rw [c2754, c2655]; rw [c2755, c2656]; rw [c2731, c2633]; first | exact f_10 | exact hQ16) (by rw [c2756, c2657]; rw [c2757, c2658]; rw [c2731, c2633]; first | exact f_11 | exact hQ17) (by rw [c2758, c2659]; rw [c2759, c2660]; rw [c2731, c2633]; first | exact f_12 | exact hQ18) (by rw [c2760, c2661]; rw [c2761, c2662]; rw [c2731, c2633]; first | exact f_13 | exact hQ19) (by rw [c2762, c2663]; rw [c2763, c2664]; rw [c2731, c2633]; first | exact f_14 | exact hQ20) (by rw [c2764, c2665]; rw [c2765, c2666]; rw [c2733, c2635]; first | exact f_15 | exact hQ24) (by rw [c2766, c2667]; rw [c2767, c2668]; rw [c2733, c2635]; first | exact f_16 | exact hQ25) (by rw [c2768, c2669]; rw [c2769, c2670]; rw [c2733, c2635]; first | exact f_17 | exact hQ23) (by rw [c2770, c2671]; rw [c2771, c2672]; rw [c2733, c2635]; first | exact f_18 | exact hQ26) (by rw [c2772, c2673]; rw [c2773, c2674]; rw [c2733, c2635]; first | exact f_19 | exact hQ27) (by rw [c2774, c2675]; rw [c2775, c2676]; rw [c2735, c2637]; first | exact f_20 | exact hQ36) (by rw [c2776, c2677]; rw [c2777, c2678]; rw [c2735, c2637]; first | exact f_21 | exact hQ37) (by rw [c2778, c2679]; rw [c2784, c2685]; rw [c2779, c2680]; rw [c2780, c2681]; rw [c2781, c2682]; rw [c2782, c2683]; rw [c2783, c2684]; rw [c2785, c2686]; rw [c2786, c2687]; rw [c2787, c2688]; rw [c2788, c2689]; rw [c2789, c2690]; exact f_22) (by rw [c2790]; rw [c2791, c2691]; rw [c2797, c2694]; rw [c2793]; rw [c2794]; rw [c2796]; rw [c2795]; exact hRD) (by rw [c2791, c2691]; rw [c2790]; rw [c2792, c2692]; rw [c2798, c2695]; exact hRF) (by rw [c2775, c2676]; rw [c2777, c2678]; rw [c2797, c2694]; rw [c2735, c2637]; rw [c2799, c2700]; exact f_25) (by rw [c2797, c2694]; rw [c2735, c2637]; exact f_26) (by rw [c2800, c2701]; rw [c2803, c2704]; rw [c2801, c2702]; rw [c2804, c2705]; rw [c2802, c2703]; rw [c2805, c2706]; exact f_27) (by omega)
                                          · refine sf_iconst sf_c0 (fun z2814 ez2814 => ?_)
                                            exact sf_lend (by omega) (by omega) (by omega)
                                        · show kt_W_law_1421 N xs K _ _ _ _ _
                                          refine sf_iinc (L' := [(6, .inl (.int v2723)), (5, .inl (.int v2625)), (0, .inl (.ref 100000)), (1, .inl (.ref 0)), (2, .inl (.ref 71)), (3, .inl (.ref 130))]) (x := x4) sf_c8 rfl rfl (by omega) (fun v2815 ev2815 => ?_)
                                          refine sf_can (L' := [(0, .inl (.ref 100000)), (1, .inl (.ref 0)), (2, .inl (.ref 71)), (3, .inl (.ref 130)), (4, .inl (.int v2815))]) rfl ?_
                                          exact ih _ _ _ _ Iw2724 (by omega) (by omega) (by omega) (by omega) (by rw [c2726, c2628]; rw [c2727, c2629]; rw [c2728, c2630]; rw [c2729, c2631]; rw [c2730, c2632]; rw [c2731, c2633]; rw [c2732, c2634]; rw [c2733, c2635]; rw [c2734, c2636]; rw [c2735, c2637]; omega) (by rw [c2736, c2638]; rw [c2737, c2639]; rw [c2727, c2629]; first | exact f_1 | exact hJ) (by rw [c2738, c2640]; rw [c2739, c2641]; first | exact f_2 | exact hK2) (by rw [c2741, c2642]; rw [c2737, c2639]; rw [c2727, c2629]; first | exact f_3 | exact hQ2) (by rw [c2742, c2643]; rw [c2743, c2644]; rw [c2729, c2631]; first | exact f_4 | exact hQ6) (by rw [c2744, c2645]; rw [c2745, c2646]; rw [c2729, c2631]; first | exact f_5 | exact hQ7) (by rw [c2746, c2647]; rw [c2747, c2648]; rw [c2729, c2631]; first | exact f_6 | exact hQ8) (by rw [c2748, c2649]; rw [c2749, c2650]; rw [c2729, c2631]; first | exact f_7 | exact hQ9) (by rw [c2750, c2651]; rw [c2751, c2652]; rw [c2731, c2633]; first | exact f_8 | exact hQ14) (by rw [c2752, c2653]; rw [c2753, c2654]; rw [c2731, c2633]; first | exact f_9 | exact hQ15) (by rw [c2754, c2655]; rw [c2755, c2656]; rw [c2731, c2633]; first | exact f_10 | exact hQ16) (by rw [c2756, c2657]; rw [c2757, c2658]; rw [c2731, c2633]; first | exact f_11 | exact hQ17) (by rw [c2758, c2659]; rw [c2759, c2660]; rw [c2731, c2633]; first | exact f_12 | exact hQ18) (by rw [c2760, c2661]; rw [c2761, c2662]; rw [c2731, c2633]; first | exact f_13 | exact hQ19) (by rw [c2762, c2663]; rw [c2763, c2664]; rw [c2731, c2633]; first | exact f_14 | exact hQ20) (by rw [c2764, c2665]; rw [c2765, c2666]; rw [c2733, c2635]; first | exact f_15 | exact hQ24) (by rw [c2766, c2667]; rw [c2767, c2668]; rw [c2733, c2635]; first | exact f_16 | exact hQ25) (by rw [c2768, c2669]; rw [c2769, c2670]; rw [c2733, c2635]; first | exact f_17 | exact hQ23) (by rw [c2770, c2671]; rw [c2771, c2672]; rw [c2733, c2635]; first | exact f_18 | exact hQ26) (by rw [c2772, c2673]; rw [c2773, c2674]; rw [c2733, c2635]; first | exact f_19 | exact hQ27) (by rw [c2774, c2675]; rw [c2775, c2676]; rw [c2735, c2637]; first | exact f_20 | exact hQ36) (by rw [c2776, c2677]; rw [c2777, c2678]; rw [c2735, c2637]; first | exact f_21 | exact hQ37) (by rw [c2778, c2679]; rw [c2784, c2685]; rw [c2779, c2680]; rw [c2780, c2681]; rw [c2781, c2682]; rw [c2782, c2683]; rw [c2783, c2684]; rw [c2785, c2686]; rw [c2786, c2687]; rw [c2787, c2688]; rw [c2788, c2689]; rw [c2789, c2690]; exact f_22) (by rw [c2790]; rw [c2791, c2691]; rw [c2797, c2694]; rw [c2793]; rw [c2794]; rw [c2796]; rw [c2795]; exact hRD) (by rw [c2791, c2691]; rw [c2790]; rw [c2792, c2692]; rw [c2798, c2695]; exact hRF) (by rw [c2775, c2676]; rw [c2777, c2678]; rw [c2797, c2694]; rw [c2735, c2637]; rw [c2799, c2700]; exact f_25) (by rw [c2797, c2694]; rw [c2735, c2637]; exact f_26) (by rw [c2800, c2701]; rw [c2803, c2704]; rw [c2801, c2702]; rw [c2804, c2705]; rw [c2802, c2703]; rw [c2805, c2706]; exact f_27) (by omega)
                                      · refine sf_iconst sf_c0 (fun z2816 ez2816 => ?_)
                                        exact sf_lend (by omega) (by omega) (by omega)
                                    · refine sf_iconst sf_c1 (fun z2817 ez2817 => ?_)
                                      show kt_W_law_940 N xs K _ _ _ _ _
                                      refine sf_callv8 rfl (by omega) (by omega) ?_
                                      refine sf_rv Iw2626 rfl ?_
                                      refine sc_M_line Iw2626 (by omega) (by omega) (fun v2818 w2819 Iw2819 tw2819 lv2818 uv2818 q2820_0 q2820_1 q2820_2 q2820_3 q2820_4 q2820_5 => ?_)
                                      rw [c2693] at q2820_0
                                      rw [c2694] at q2820_0
                                      rw [c2637] at q2820_0
                                      rw [c2693] at q2820_1
                                      rw [c2696] at q2820_1
                                      rw [c2693] at q2820_2
                                      rw [c2697] at q2820_2
                                      rw [c2693] at q2820_3
                                      rw [c2699] at q2820_3
                                      rw [c2693] at q2820_4
                                      rw [c2693] at q2820_5
                                      rw [c2698] at q2820_5
                                      have c2821 := sf_mf tw2819 (p := 1) (j := 0) rfl
                                      have c2822 := sf_mf tw2819 (p := 71) (j := 1) rfl
                                      have c2823 := sf_mf tw2819 (p := 1) (j := 5) rfl
                                      have c2824 := sf_mf tw2819 (p := 71) (j := 5) rfl
                                      have c2825 := sf_mf tw2819 (p := 13) (j := 1) rfl
                                      have c2826 := sf_mf tw2819 (p := 71) (j := 10) rfl
                                      have c2827 := sf_mf tw2819 (p := 21) (j := 1) rfl
                                      have c2828 := sf_mf tw2819 (p := 71) (j := 18) rfl
                                      have c2829 := sf_mf tw2819 (p := 35) (j := 0) rfl
                                      have c2830 := sf_mf tw2819 (p := 71) (j := 35) rfl
                                      have c2831 := sf_ma tw2819 (p := 3) rfl
                                      have c2832 := sf_ma tw2819 (p := 72) rfl
                                      have c2833 := sf_mg tw2819 (p := 10) rfl
                                      have c2834 := sf_ma tw2819 (p := 93) rfl
                                      have c2835 := sf_mL tw2819 (p := 130) rfl
                                      have c2836 := sf_ma tw2819 (p := 2) rfl
                                      have c2837 := sf_ma tw2819 (p := 6) rfl
                                      have c2838 := sf_ma tw2819 (p := 75) rfl
                                      have c2839 := sf_ma tw2819 (p := 7) rfl
                                      have c2840 := sf_ma tw2819 (p := 76) rfl
                                      have c2841 := sf_ma tw2819 (p := 8) rfl
                                      have c2842 := sf_ma tw2819 (p := 77) rfl
                                      have c2843 := sf_ma tw2819 (p := 9) rfl
                                      have c2844 := sf_ma tw2819 (p := 78) rfl
                                      have c2845 := sf_ma tw2819 (p := 14) rfl
                                      have c2846 := sf_ma tw2819 (p := 79) rfl
                                      have c2847 := sf_ma tw2819 (p := 15) rfl
                                      have c2848 := sf_ma tw2819 (p := 80) rfl
                                      have c2849 := sf_ma tw2819 (p := 16) rfl
                                      have c2850 := sf_ma tw2819 (p := 81) rfl
                                      have c2851 := sf_ma tw2819 (p := 17) rfl
                                      have c2852 := sf_ma tw2819 (p := 82) rfl
                                      have c2853 := sf_ma tw2819 (p := 18) rfl
                                      have c2854 := sf_ma tw2819 (p := 83) rfl
                                      have c2855 := sf_ma tw2819 (p := 19) rfl
                                      have c2856 := sf_ma tw2819 (p := 84) rfl
                                      have c2857 := sf_ma tw2819 (p := 20) rfl
                                      have c2858 := sf_ma tw2819 (p := 85) rfl
                                      have c2859 := sf_ma tw2819 (p := 24) rfl
                                      have c2860 := sf_ma tw2819 (p := 86) rfl
                                      have c2861 := sf_ma tw2819 (p := 25) rfl
                                      have c2862 := sf_ma tw2819 (p := 87) rfl
                                      have c2863 := sf_ma tw2819 (p := 23) rfl
                                      have c2864 := sf_ma tw2819 (p := 88) rfl
                                      have c2865 := sf_ma tw2819 (p := 26) rfl
                                      have c2866 := sf_ma tw2819 (p := 89) rfl
                                      have c2867 := sf_ma tw2819 (p := 27) rfl
                                      have c2868 := sf_ma tw2819 (p := 90) rfl
                                      have c2869 := sf_ma tw2819 (p := 36) rfl
                                      have c2870 := sf_ma tw2819 (p := 102) rfl
                                      have c2871 := sf_ma tw2819 (p := 37) rfl
                                      have c2872 := sf_ma tw2819 (p := 103) rfl
                                      have c2873 := sf_mf tw2819 (p := 60) (j := 0) rfl
                                      have c2874 := sf_ma tw2819 (p := 61) rfl
                                      have c2875 := sf_ma tw2819 (p := 62) rfl
                                      have c2876 := sf_ma tw2819 (p := 63) rfl
                                      have c2877 := sf_ma tw2819 (p := 65) rfl
                                      have c2878 := sf_ma tw2819 (p := 66) rfl
                                      have c2879 := sf_mf tw2819 (p := 71) (j := 56) rfl
                                      have c2880 := sf_ma tw2819 (p := 121) rfl
                                      have c2881 := sf_ma tw2819 (p := 122) rfl
                                      have c2882 := sf_ma tw2819 (p := 123) rfl
                                      have c2883 := sf_ma tw2819 (p := 125) rfl
                                      have c2884 := sf_ma tw2819 (p := 126) rfl
                                      have c2885 := sf_ma tw2819 (p := 38) rfl
                                      have c2886 := sf_ma tw2819 (p := 40) rfl
                                      have c2887 := sf_ma tw2819 (p := 41) rfl
                                      have c2888 := sf_ma tw2819 (p := 42) rfl
                                      have c2889 := sf_ma tw2819 (p := 43) rfl
                                      have c2890 := sf_ma tw2819 (p := 44) rfl
                                      have c2891 := sf_ma tw2819 (p := 47) rfl
                                      have c2892 := sf_ma tw2819 (p := 106) rfl
                                      have c2893 := sf_ma tw2819 (p := 113) rfl
                                      have c2894 := sf_mf tw2819 (p := 71) (j := 41) rfl
                                      have c2895 := sf_ma tw2819 (p := 68) rfl
                                      have c2896 := sf_ma tw2819 (p := 69) rfl
                                      have c2897 := sf_ma tw2819 (p := 70) rfl
                                      have c2898 := sf_ma tw2819 (p := 127) rfl
                                      have c2899 := sf_ma tw2819 (p := 128) rfl
                                      have c2900 := sf_ma tw2819 (p := 129) rfl
                                      have G0 := q2820_0
                                      have G1 := q2820_1
                                      have G2 := q2820_2
                                      have G3 := q2820_3
                                      have G4 := q2820_4
                                      have G5 := q2820_5
                                      clear q2820_0 q2820_1 q2820_2 q2820_3 q2820_4 q2820_5
                                      have b12 := (sf_fb I_w (p := 71) (ci := 9) (j := 35) rfl rfl)
                                      have hda : 0 ≤ (xs (x4.toInt.toNat + 1)).toInt → (xs (x4.toInt.toNat + 1)).toInt < (sf_f w 71 35).toInt → (sf_a w 40 (xs (x4.toInt.toNat + 1)).toInt.toNat).toInt = (sf_a w 106 (xs (x4.toInt.toNat + 1)).toInt.toNat).toInt := fun h1 h2 => by rw [f_23.2.1 _ (by omega)]
                                      have hdl : 0 ≤ (xs (x4.toInt.toNat + 1)).toInt → (xs (x4.toInt.toNat + 1)).toInt < (sf_f w 71 35).toInt → (sf_a w 38 (xs (x4.toInt.toNat + 1)).toInt.toNat).toInt = (sf_a w 104 (xs (x4.toInt.toNat + 1)).toInt.toNat).toInt := fun h1 h2 => by rw [f_23.1 _ (by omega)]
                                      have hrc : v2625.toInt = (sf_f w2819 71 0).toInt := by omega
                                      have hix : v2625.toInt = 0 → 4 * (xs (x4.toInt.toNat + 1)).toInt + (sf_a w 38 (xs (x4.toInt.toNat + 1)).toInt.toNat).toInt = 4 * (xs (x4.toInt.toNat + 1)).toInt + (sf_a w 104 (xs (x4.toInt.toNat + 1)).toInt.toNat).toInt := fun h9 => by have h8 := hdl (by omega) (by omega); omega
                                      have hRD : sl_RD (sf_a w2626 38) (sf_a w2819 104) (sf_a w 40) (sf_a w 106) (sf_a w2626 42) (sf_a w2819 107) (sf_a w2626 43) (sf_a w2819 108) (sf_a w2626 47) (sf_a w2819 109) (sf_a w2626 44) (sf_a w2819 110) := ⟨sl_QUL f_23.1 F5 G4 rfl hrc (fun h9 => by omega), f_23.2.1, sl_QU f_23.2.2.1 F1 G1 hix hrc rfl, sl_QU f_23.2.2.2.1 F2 G2 hix hrc rfl, sl_QU f_23.2.2.2.2.1 F4 G3 hix hrc (by omega), sl_Q3U f_23.2.2.2.2.2 F3 G5 hix hrc rfl⟩
                                      have hRF : sl_RF (sf_a w 40) (sf_a w2626 38) (sf_a w 41) (sf_a w 113) := sl_RFU f_24 F5 (fun h9 => by omega)
                                      clear F1 F2 F3 F4 F5 G1 G2 G3 G4 G5 hix
                                      refine sf_istore (L' := [(5, .inl (.int v2625)), (0, .inl (.ref 100000)), (1, .inl (.ref 0)), (2, .inl (.ref 71)), (3, .inl (.ref 130)), (4, .inl (.int x4))]) rfl ?_
                                      refine sf_aload rfl ?_
                                      refine sf_callv1 rfl (by omega) (by omega) ?_
                                      refine sf_rv Iw2819 rfl ?_
                                      refine sf_sp (L := [(0, .inl (.ref 71))]) rfl rfl ?_
                                      refine sf_aload rfl ?_
                                      refine sf_geti Iw2819 rfl rfl (fun v2901 lv2901 uv2901 ev2901 => ?_)
                                      refine sf_ireturn rfl rfl ?_
                                      refine sf_iload rfl ?_
                                      refine sf_f2_eq (fun h2902 => ?_) (fun h2902 => ?_)
                                      · refine sf_iload rfl ?_
                                        refine sf_f1_eq (fun h2903 => ?_) (fun h2903 => ?_)
                                        · refine sf_aload rfl ?_
                                          refine sf_iconst sf_c0 (fun z2904 ez2904 => ?_)
                                          refine sf_lald Iw2819 rfl (by omega) (fun v2905 ev2905 => ?_)
                                          rw [c2835] at ev2905
                                          rw [show z2904.toInt.toNat = 0 by omega] at ev2905
                                          refine sf_iload rfl ?_
                                          refine sf_i2l (fun v2906 ev2906 => ?_)
                                          refine sf_fl_eq (fun h2907 => ?_) (fun h2907 => ?_)
                                          · show kt_W_law_1421 N xs K _ _ _ _ _
                                            refine sf_iinc (L' := [(6, .inl (.int v2818)), (5, .inl (.int v2625)), (0, .inl (.ref 100000)), (1, .inl (.ref 0)), (2, .inl (.ref 71)), (3, .inl (.ref 130))]) (x := x4) sf_c8 rfl rfl (by omega) (fun v2908 ev2908 => ?_)
                                            refine sf_can (L' := [(0, .inl (.ref 100000)), (1, .inl (.ref 0)), (2, .inl (.ref 71)), (3, .inl (.ref 130)), (4, .inl (.int v2908))]) rfl ?_
                                            exact ih _ _ _ _ Iw2819 (by omega) (by omega) (by omega) (by omega) (by rw [c2821, c2628]; rw [c2822, c2629]; rw [c2823, c2630]; rw [c2824, c2631]; rw [c2825, c2632]; rw [c2826, c2633]; rw [c2827, c2634]; rw [c2828, c2635]; rw [c2829, c2636]; rw [c2830, c2637]; omega) (by rw [c2831, c2638]; rw [c2832, c2639]; rw [c2822, c2629]; first | exact f_1 | exact hJ) (by rw [c2833, c2640]; rw [c2834, c2641]; first | exact f_2 | exact hK2) (by rw [c2836, c2642]; rw [c2832, c2639]; rw [c2822, c2629]; first | exact f_3 | exact hQ2) (by rw [c2837, c2643]; rw [c2838, c2644]; rw [c2824, c2631]; first | exact f_4 | exact hQ6) (by rw [c2839, c2645]; rw [c2840, c2646]; rw [c2824, c2631]; first | exact f_5 | exact hQ7) (by rw [c2841, c2647]; rw [c2842, c2648]; rw [c2824, c2631]; first | exact f_6 | exact hQ8) (by rw [c2843, c2649]; rw [c2844, c2650]; rw [c2824, c2631]; first | exact f_7 | exact hQ9) (by rw [c2845, c2651]; rw [c2846, c2652]; rw [c2826, c2633]; first | exact f_8 | exact hQ14) (by rw [c2847, c2653]; rw [c2848, c2654]; rw [c2826, c2633]; first | exact f_9 | exact hQ15) (by rw [c2849, c2655]; rw [c2850, c2656]; rw [c2826, c2633]; first | exact f_10 | exact hQ16) (by rw [c2851, c2657]; rw [c2852, c2658]; rw [c2826, c2633]; first | exact f_11 | exact hQ17) (by rw [c2853, c2659]; rw [c2854, c2660]; rw [c2826, c2633]; first | exact f_12 | exact hQ18) (by rw [c2855, c2661]; rw [c2856, c2662]; rw [c2826, c2633]; first | exact f_13 | exact hQ19) (by rw [c2857, c2663]; rw [c2858, c2664]; rw [c2826, c2633]; first | exact f_14 | exact hQ20) (by rw [c2859, c2665]; rw [c2860, c2666]; rw [c2828, c2635]; first | exact f_15 | exact hQ24) (by rw [c2861, c2667]; rw [c2862, c2668]; rw [c2828, c2635]; first | exact f_16 | exact hQ25) (by rw [c2863, c2669]; rw [c2864, c2670]; rw [c2828, c2635]; first | exact f_17 | exact hQ23) (by rw [c2865, c2671]; rw [c2866, c2672]; rw [c2828, c2635]; first | exact f_18 | exact hQ26) (by rw [c2867, c2673]; rw [c2868, c2674]; rw [c2828, c2635]; first | exact f_19 | exact hQ27) (by rw [c2869, c2675]; rw [c2870, c2676]; rw [c2830, c2637]; first | exact f_20 | exact hQ36) (by rw [c2871, c2677]; rw [c2872, c2678]; rw [c2830, c2637]; first | exact f_21 | exact hQ37) (by rw [c2873, c2679]; rw [c2879, c2685]; rw [c2874, c2680]; rw [c2875, c2681]; rw [c2876, c2682]; rw [c2877, c2683]; rw [c2878, c2684]; rw [c2880, c2686]; rw [c2881, c2687]; rw [c2882, c2688]; rw [c2883, c2689]; rw [c2884, c2690]; exact f_22) (by rw [c2885]; rw [c2886, c2691]; rw [c2892, c2694]; rw [c2888]; rw [c2889]; rw [c2891]; rw [c2890]; exact hRD) (by rw [c2886, c2691]; rw [c2885]; rw [c2887, c2692]; rw [c2893, c2695]; exact hRF) (by rw [c2870, c2676]; rw [c2872, c2678]; rw [c2892, c2694]; rw [c2830, c2637]; rw [c2894, c2700]; exact f_25) (by rw [c2892, c2694]; rw [c2830, c2637]; exact f_26) (by rw [c2895, c2701]; rw [c2898, c2704]; rw [c2896, c2702]; rw [c2899, c2705]; rw [c2897, c2703]; rw [c2900, c2706]; exact f_27) (by omega)
                                          · refine sf_iconst sf_c0 (fun z2909 ez2909 => ?_)
                                            exact sf_lend (by omega) (by omega) (by omega)
                                        · show kt_W_law_1421 N xs K _ _ _ _ _
                                          refine sf_iinc (L' := [(6, .inl (.int v2818)), (5, .inl (.int v2625)), (0, .inl (.ref 100000)), (1, .inl (.ref 0)), (2, .inl (.ref 71)), (3, .inl (.ref 130))]) (x := x4) sf_c8 rfl rfl (by omega) (fun v2910 ev2910 => ?_)
                                          refine sf_can (L' := [(0, .inl (.ref 100000)), (1, .inl (.ref 0)), (2, .inl (.ref 71)), (3, .inl (.ref 130)), (4, .inl (.int v2910))]) rfl ?_
                                          exact ih _ _ _ _ Iw2819 (by omega) (by omega) (by omega) (by omega) (by rw [c2821, c2628]; rw [c2822, c2629]; rw [c2823, c2630]; rw [c2824, c2631]; rw [c2825, c2632]; rw [c2826, c2633]; rw [c2827, c2634]; rw [c2828, c2635]; rw [c2829, c2636]; rw [c2830, c2637]; omega) (by rw [c2831, c2638]; rw [c2832, c2639]; rw [c2822, c2629]; first | exact f_1 | exact hJ) (by rw [c2833, c2640]; rw [c2834, c2641]; first | exact f_2 | exact hK2) (by rw [c2836, c2642]; rw [c2832, c2639]; rw [c2822, c2629]; first | exact f_3 | exact hQ2) (by rw [c2837, c2643]; rw [c2838, c2644]; rw [c2824, c2631]; first | exact f_4 | exact hQ6) (by rw [c2839, c2645]; rw [c2840, c2646]; rw [c2824, c2631]; first | exact f_5 | exact hQ7) (by rw [c2841, c2647]; rw [c2842, c2648]; rw [c2824, c2631]; first | exact f_6 | exact hQ8) (by rw [c2843, c2649]; rw [c2844, c2650]; rw [c2824, c2631]; first | exact f_7 | exact hQ9) (by rw [c2845, c2651]; rw [c2846, c2652]; rw [c2826, c2633]; first | exact f_8 | exact hQ14) (by rw [c2847, c2653]; rw [c2848, c2654]; rw [c2826, c2633]; first | exact f_9 | exact hQ15) (by rw [c2849, c2655]; rw [c2850, c2656]; rw [c2826, c2633]; first | exact f_10 | exact hQ16) (by rw [c2851, c2657]; rw [c2852, c2658]; rw [c2826, c2633]; first | exact f_11 | exact hQ17) (by rw [c2853, c2659]; rw [c2854, c2660]; rw [c2826, c2633]; first | exact f_12 | exact hQ18) (by rw [c2855, c2661]; rw [c2856, c2662]; rw [c2826, c2633]; first | exact f_13 | exact hQ19) (by rw [c2857, c2663]; rw [c2858, c2664]; rw [c2826, c2633]; first | exact f_14 | exact hQ20) (by rw [c2859, c2665]; rw [c2860, c2666]; rw [c2828, c2635]; first | exact f_15 | exact hQ24) (by rw [c2861, c2667]; rw [c2862, c2668]; rw [c2828, c2635]; first | exact f_16 | exact hQ25) (by rw [c2863, c2669]; rw [c2864, c2670]; rw [c2828, c2635]; first | exact f_17 | exact hQ23) (by rw [c2865, c2671]; rw [c2866, c2672]; rw [c2828, c2635]; first | exact f_18 | exact hQ26) (by rw [c2867, c2673]; rw [c2868, c2674]; rw [c2828, c2635]; first | exact f_19 | exact hQ27) (by rw [c2869, c2675]; rw [c2870, c2676]; rw [c2830, c2637]; first | exact f_20 | exact hQ36) (by rw [c2871, c2677]; rw [c2872, c2678]; rw [c2830, c2637]; first | exact f_21 | exact hQ37) (by rw [c2873, c2679]; rw [c2879, c2685]; rw [c2874, c2680]; rw [c2875, c2681]; rw [c2876, c2682]; rw [c2877, c2683]; rw [c2878, c2684]; rw [c2880, c2686]; rw [c2881, c2687]; rw [c2882, c2688]; rw [c2883, c2689]; rw [c2884, c2690]; exact f_22) (by rw [c2885]; rw [c2886, c2691]; rw [c2892, c2694]; rw [c2888]; rw [c2889]; rw [c2891]; rw [c2890]; exact hRD) (by rw [c2886, c2691]; rw [c2885]; rw [c2887, c2692]; rw [c2893, c2695]; exact hRF) (by rw [c2870, c2676]; rw [c2872, c2678]; rw [c2892, c2694]; rw [c2830, c2637]; rw [c2894, c2700]; exact f_25) (by rw [c2892, c2694]; rw [c2830, c2637]; exact f_26) (by rw [c2895, c2701]; rw [c2898, c2704]; rw [c2896, c2702]; rw [c2899, c2705]; rw [c2897, c2703]; rw [c2900, c2706]; exact f_27) (by omega)
                                      · refine sf_iconst sf_c0 (fun z2911 ez2911 => ?_)
                                        exact sf_lend (by omega) (by omega) (by omega)
                                · clear h2415
                                  refine sf_sw1 sf_c14 (fun h2912 => ?_) (fun h2912 => ?_)
                                  · refine sf_aload rfl ?_
                                    refine sf_aload rfl ?_
                                    refine sf_iload rfl ?_
                                    refine sf_iconst sf_c1 (fun z2913 ez2913 => ?_)
                                    refine sf_iadd (by omega) (fun v2914 ev2914 => ?_)
                                    refine sf_sldk (x := x4) (k := 1) (by omega) (by omega) (by omega) ?_
                                    clear ev2914 ez2913
                                    refine sf_aload rfl ?_
                                    refine sf_iload rfl ?_
                                    refine sf_iconst sf_c2 (fun z2915 ez2915 => ?_)
                                    refine sf_iadd (by omega) (fun v2916 ev2916 => ?_)
                                    refine sf_sldk (x := x4) (k := 2) (by omega) (by omega) (by omega) ?_
                                    clear ev2916 ez2915
                                    refine sf_aload rfl ?_
                                    refine sf_iload rfl ?_
                                    refine sf_iconst sf_c3 (fun z2917 ez2917 => ?_)
                                    refine sf_iadd (by omega) (fun v2918 ev2918 => ?_)
                                    refine sf_sldk (x := x4) (k := 3) (by omega) (by omega) (by omega) ?_
                                    clear ev2918 ez2917
                                    refine sf_callv4 rfl (by omega) (by omega) ?_
                                    refine sc_W_charge_0 I_w  (fun v2919 w2920 Iw2920 tw2920 lv2919 uv2919 q2921_0 => ?_)
                                    have c2922 := sf_mf tw2920 (p := 1) (j := 0) rfl
                                    have c2923 := sf_mf tw2920 (p := 71) (j := 1) rfl
                                    have c2924 := sf_mf tw2920 (p := 1) (j := 5) rfl
                                    have c2925 := sf_mf tw2920 (p := 71) (j := 5) rfl
                                    have c2926 := sf_mf tw2920 (p := 13) (j := 1) rfl
                                    have c2927 := sf_mf tw2920 (p := 71) (j := 10) rfl
                                    have c2928 := sf_mf tw2920 (p := 21) (j := 1) rfl
                                    have c2929 := sf_mf tw2920 (p := 71) (j := 18) rfl
                                    have c2930 := sf_mf tw2920 (p := 35) (j := 0) rfl
                                    have c2931 := sf_mf tw2920 (p := 71) (j := 35) rfl
                                    have c2932 := sf_ma tw2920 (p := 3) rfl
                                    have c2933 := sf_ma tw2920 (p := 72) rfl
                                    have c2934 := sf_mg tw2920 (p := 10) rfl
                                    have c2935 := sf_ma tw2920 (p := 93) rfl
                                    have c2936 := sf_mL tw2920 (p := 130) rfl
                                    have c2937 := sf_ma tw2920 (p := 2) rfl
                                    have c2938 := sf_ma tw2920 (p := 6) rfl
                                    have c2939 := sf_ma tw2920 (p := 75) rfl
                                    have c2940 := sf_ma tw2920 (p := 7) rfl
                                    have c2941 := sf_ma tw2920 (p := 76) rfl
                                    have c2942 := sf_ma tw2920 (p := 8) rfl
                                    have c2943 := sf_ma tw2920 (p := 77) rfl
                                    have c2944 := sf_ma tw2920 (p := 9) rfl
                                    have c2945 := sf_ma tw2920 (p := 78) rfl
                                    have c2946 := sf_ma tw2920 (p := 14) rfl
                                    have c2947 := sf_ma tw2920 (p := 79) rfl
                                    have c2948 := sf_ma tw2920 (p := 15) rfl
                                    have c2949 := sf_ma tw2920 (p := 80) rfl
                                    have c2950 := sf_ma tw2920 (p := 16) rfl
                                    have c2951 := sf_ma tw2920 (p := 81) rfl
                                    have c2952 := sf_ma tw2920 (p := 17) rfl
                                    have c2953 := sf_ma tw2920 (p := 82) rfl
                                    have c2954 := sf_ma tw2920 (p := 18) rfl
                                    have c2955 := sf_ma tw2920 (p := 83) rfl
                                    have c2956 := sf_ma tw2920 (p := 19) rfl
                                    have c2957 := sf_ma tw2920 (p := 84) rfl
                                    have c2958 := sf_ma tw2920 (p := 20) rfl
                                    have c2959 := sf_ma tw2920 (p := 85) rfl
                                    have c2960 := sf_ma tw2920 (p := 24) rfl
                                    have c2961 := sf_ma tw2920 (p := 86) rfl
                                    have c2962 := sf_ma tw2920 (p := 25) rfl
                                    have c2963 := sf_ma tw2920 (p := 87) rfl
                                    have c2964 := sf_ma tw2920 (p := 23) rfl
                                    have c2965 := sf_ma tw2920 (p := 88) rfl
                                    have c2966 := sf_ma tw2920 (p := 26) rfl
                                    have c2967 := sf_ma tw2920 (p := 89) rfl
                                    have c2968 := sf_ma tw2920 (p := 27) rfl
                                    have c2969 := sf_ma tw2920 (p := 90) rfl
                                    have c2970 := sf_ma tw2920 (p := 36) rfl
                                    have c2971 := sf_ma tw2920 (p := 102) rfl
                                    have c2972 := sf_ma tw2920 (p := 37) rfl
                                    have c2973 := sf_ma tw2920 (p := 103) rfl
                                    have c2974 := sf_mf tw2920 (p := 60) (j := 0) rfl
                                    have c2975 := sf_ma tw2920 (p := 61) rfl
                                    have c2976 := sf_ma tw2920 (p := 62) rfl
                                    have c2977 := sf_ma tw2920 (p := 63) rfl
                                    have c2978 := sf_ma tw2920 (p := 65) rfl
                                    have c2979 := sf_ma tw2920 (p := 66) rfl
                                    have c2980 := sf_mf tw2920 (p := 71) (j := 56) rfl
                                    have c2981 := sf_ma tw2920 (p := 121) rfl
                                    have c2982 := sf_ma tw2920 (p := 122) rfl
                                    have c2983 := sf_ma tw2920 (p := 123) rfl
                                    have c2984 := sf_ma tw2920 (p := 125) rfl
                                    have c2985 := sf_ma tw2920 (p := 126) rfl
                                    have c2986 := sf_ma tw2920 (p := 38) rfl
                                    have c2987 := sf_ma tw2920 (p := 40) rfl
                                    have c2988 := sf_ma tw2920 (p := 41) rfl
                                    have c2989 := sf_ma tw2920 (p := 42) rfl
                                    have c2990 := sf_ma tw2920 (p := 43) rfl
                                    have c2991 := sf_ma tw2920 (p := 44) rfl
                                    have c2992 := sf_ma tw2920 (p := 47) rfl
                                    have c2993 := sf_ma tw2920 (p := 104) rfl
                                    have c2994 := sf_ma tw2920 (p := 106) rfl
                                    have c2995 := sf_ma tw2920 (p := 113) rfl
                                    have c2996 := sf_ma tw2920 (p := 107) rfl
                                    have c2997 := sf_ma tw2920 (p := 108) rfl
                                    have c2998 := sf_ma tw2920 (p := 110) rfl
                                    have c2999 := sf_ma tw2920 (p := 109) rfl
                                    have c3000 := sf_mf tw2920 (p := 71) (j := 41) rfl
                                    have c3001 := sf_ma tw2920 (p := 68) rfl
                                    have c3002 := sf_ma tw2920 (p := 69) rfl
                                    have c3003 := sf_ma tw2920 (p := 70) rfl
                                    have c3004 := sf_ma tw2920 (p := 127) rfl
                                    have c3005 := sf_ma tw2920 (p := 128) rfl
                                    have c3006 := sf_ma tw2920 (p := 129) rfl
                                    have F0 := q2921_0
                                    clear q2921_0
                                    refine sf_istore (L' := [(0, .inl (.ref 100000)), (1, .inl (.ref 0)), (2, .inl (.ref 71)), (3, .inl (.ref 130)), (4, .inl (.int x4))]) rfl ?_
                                    refine sf_aload rfl ?_
                                    refine sf_aload rfl ?_
                                    refine sf_iload rfl ?_
                                    refine sf_iconst sf_c1 (fun z3007 ez3007 => ?_)
                                    refine sf_iadd (by omega) (fun v3008 ev3008 => ?_)
                                    refine sf_sldk (x := x4) (k := 1) (by omega) (by omega) (by omega) ?_
                                    clear ev3008 ez3007
                                    refine sf_aload rfl ?_
                                    refine sf_iload rfl ?_
                                    refine sf_iconst sf_c2 (fun z3009 ez3009 => ?_)
                                    refine sf_iadd (by omega) (fun v3010 ev3010 => ?_)
                                    refine sf_sldk (x := x4) (k := 2) (by omega) (by omega) (by omega) ?_
                                    clear ev3010 ez3009
                                    refine sf_aload rfl ?_
                                    refine sf_iload rfl ?_
                                    refine sf_iconst sf_c3 (fun z3011 ez3011 => ?_)
                                    refine sf_iadd (by omega) (fun v3012 ev3012 => ?_)
                                    refine sf_sldk (x := x4) (k := 3) (by omega) (by omega) (by omega) ?_
                                    clear ev3012 ez3011
                                    refine sf_callv4 rfl (by omega) (by omega) ?_
                                    refine sf_rv Iw2920 rfl ?_
                                    refine sc_M_charge Iw2920  (fun w3013 Iw3013 tw3013 q3014_0 => ?_)
                                    rw [c2994] at q3014_0
                                    rw [c2931] at q3014_0
                                    have c3015 := sf_mf tw3013 (p := 1) (j := 0) rfl
                                    have c3016 := sf_mf tw3013 (p := 71) (j := 1) rfl
                                    have c3017 := sf_mf tw3013 (p := 1) (j := 5) rfl
                                    have c3018 := sf_mf tw3013 (p := 71) (j := 5) rfl
                                    have c3019 := sf_mf tw3013 (p := 13) (j := 1) rfl
                                    have c3020 := sf_mf tw3013 (p := 71) (j := 10) rfl
                                    have c3021 := sf_mf tw3013 (p := 21) (j := 1) rfl
                                    have c3022 := sf_mf tw3013 (p := 71) (j := 18) rfl
                                    have c3023 := sf_mf tw3013 (p := 35) (j := 0) rfl
                                    have c3024 := sf_mf tw3013 (p := 71) (j := 35) rfl
                                    have c3025 := sf_ma tw3013 (p := 3) rfl
                                    have c3026 := sf_ma tw3013 (p := 72) rfl
                                    have c3027 := sf_mg tw3013 (p := 10) rfl
                                    have c3028 := sf_ma tw3013 (p := 93) rfl
                                    have c3029 := sf_mL tw3013 (p := 130) rfl
                                    have c3030 := sf_ma tw3013 (p := 2) rfl
                                    have c3031 := sf_ma tw3013 (p := 6) rfl
                                    have c3032 := sf_ma tw3013 (p := 75) rfl
                                    have c3033 := sf_ma tw3013 (p := 7) rfl
                                    have c3034 := sf_ma tw3013 (p := 76) rfl
                                    have c3035 := sf_ma tw3013 (p := 8) rfl
                                    have c3036 := sf_ma tw3013 (p := 77) rfl
                                    have c3037 := sf_ma tw3013 (p := 9) rfl
                                    have c3038 := sf_ma tw3013 (p := 78) rfl
                                    have c3039 := sf_ma tw3013 (p := 14) rfl
                                    have c3040 := sf_ma tw3013 (p := 79) rfl
                                    have c3041 := sf_ma tw3013 (p := 15) rfl
                                    have c3042 := sf_ma tw3013 (p := 80) rfl
                                    have c3043 := sf_ma tw3013 (p := 16) rfl
                                    have c3044 := sf_ma tw3013 (p := 81) rfl
                                    have c3045 := sf_ma tw3013 (p := 17) rfl
                                    have c3046 := sf_ma tw3013 (p := 82) rfl
                                    have c3047 := sf_ma tw3013 (p := 18) rfl
                                    have c3048 := sf_ma tw3013 (p := 83) rfl
                                    have c3049 := sf_ma tw3013 (p := 19) rfl
                                    have c3050 := sf_ma tw3013 (p := 84) rfl
                                    have c3051 := sf_ma tw3013 (p := 20) rfl
                                    have c3052 := sf_ma tw3013 (p := 85) rfl
                                    have c3053 := sf_ma tw3013 (p := 24) rfl
                                    have c3054 := sf_ma tw3013 (p := 86) rfl
                                    have c3055 := sf_ma tw3013 (p := 25) rfl
                                    have c3056 := sf_ma tw3013 (p := 87) rfl
                                    have c3057 := sf_ma tw3013 (p := 23) rfl
                                    have c3058 := sf_ma tw3013 (p := 88) rfl
                                    have c3059 := sf_ma tw3013 (p := 26) rfl
                                    have c3060 := sf_ma tw3013 (p := 89) rfl
                                    have c3061 := sf_ma tw3013 (p := 27) rfl
                                    have c3062 := sf_ma tw3013 (p := 90) rfl
                                    have c3063 := sf_ma tw3013 (p := 36) rfl
                                    have c3064 := sf_ma tw3013 (p := 102) rfl
                                    have c3065 := sf_ma tw3013 (p := 37) rfl
                                    have c3066 := sf_ma tw3013 (p := 103) rfl
                                    have c3067 := sf_mf tw3013 (p := 60) (j := 0) rfl
                                    have c3068 := sf_ma tw3013 (p := 61) rfl
                                    have c3069 := sf_ma tw3013 (p := 62) rfl
                                    have c3070 := sf_ma tw3013 (p := 63) rfl
                                    have c3071 := sf_ma tw3013 (p := 65) rfl
                                    have c3072 := sf_ma tw3013 (p := 66) rfl
                                    have c3073 := sf_mf tw3013 (p := 71) (j := 56) rfl
                                    have c3074 := sf_ma tw3013 (p := 121) rfl
                                    have c3075 := sf_ma tw3013 (p := 122) rfl
                                    have c3076 := sf_ma tw3013 (p := 123) rfl
                                    have c3077 := sf_ma tw3013 (p := 125) rfl
                                    have c3078 := sf_ma tw3013 (p := 126) rfl
                                    have c3079 := sf_ma tw3013 (p := 38) rfl
                                    have c3080 := sf_ma tw3013 (p := 40) rfl
                                    have c3081 := sf_ma tw3013 (p := 41) rfl
                                    have c3082 := sf_ma tw3013 (p := 42) rfl
                                    have c3083 := sf_ma tw3013 (p := 43) rfl
                                    have c3084 := sf_ma tw3013 (p := 44) rfl
                                    have c3085 := sf_ma tw3013 (p := 47) rfl
                                    have c3086 := sf_ma tw3013 (p := 104) rfl
                                    have c3087 := sf_ma tw3013 (p := 106) rfl
                                    have c3088 := sf_ma tw3013 (p := 113) rfl
                                    have c3089 := sf_ma tw3013 (p := 107) rfl
                                    have c3090 := sf_ma tw3013 (p := 108) rfl
                                    have c3091 := sf_ma tw3013 (p := 110) rfl
                                    have c3092 := sf_ma tw3013 (p := 109) rfl
                                    have c3093 := sf_mf tw3013 (p := 71) (j := 41) rfl
                                    have c3094 := sf_ma tw3013 (p := 68) rfl
                                    have c3095 := sf_ma tw3013 (p := 69) rfl
                                    have c3096 := sf_ma tw3013 (p := 70) rfl
                                    have c3097 := sf_ma tw3013 (p := 127) rfl
                                    have c3098 := sf_ma tw3013 (p := 128) rfl
                                    have c3099 := sf_ma tw3013 (p := 129) rfl
                                    have G0 := q3014_0
                                    clear q3014_0
                                    have b12 := (sf_fb I_w (p := 71) (ci := 9) (j := 35) rfl rfl)
                                    have hda : 0 ≤ (xs (x4.toInt.toNat + 1)).toInt → (xs (x4.toInt.toNat + 1)).toInt < (sf_f w 71 35).toInt → (sf_a w 40 (xs (x4.toInt.toNat + 1)).toInt.toNat).toInt = (sf_a w 106 (xs (x4.toInt.toNat + 1)).toInt.toNat).toInt := fun h1 h2 => by rw [f_23.2.1 _ (by omega)]
                                    show kt_W_law_1421 N xs K _ _ _ _ _
                                    refine sf_iinc (L' := [(5, .inl (.int v2919)), (0, .inl (.ref 100000)), (1, .inl (.ref 0)), (2, .inl (.ref 71)), (3, .inl (.ref 130))]) (x := x4) sf_c8 rfl rfl (by omega) (fun v3100 ev3100 => ?_)
                                    refine sf_can (L' := [(0, .inl (.ref 100000)), (1, .inl (.ref 0)), (2, .inl (.ref 71)), (3, .inl (.ref 130)), (4, .inl (.int v3100))]) rfl ?_
                                    exact ih _ _ _ _ Iw3013 (by omega) (by omega) (by omega) (by omega) (by rw [c3015, c2922]; rw [c3016, c2923]; rw [c3017, c2924]; rw [c3018, c2925]; rw [c3019, c2926]; rw [c3020, c2927]; rw [c3021, c2928]; rw [c3022, c2929]; rw [c3023, c2930]; rw [c3024, c2931]; omega) (by rw [c3025, c2932]; rw [c3026, c2933]; rw [c3016, c2923]; first | exact f_1 | exact hJ) (by rw [c3027, c2934]; rw [c3028, c2935]; first | exact f_2 | exact hK2) (by rw [c3030, c2937]; rw [c3026, c2933]; rw [c3016, c2923]; first | exact f_3 | exact hQ2) (by rw [c3031, c2938]; rw [c3032, c2939]; rw [c3018, c2925]; first | exact f_4 | exact hQ6) (by rw [c3033, c2940]; rw [c3034, c2941]; rw [c3018, c2925]; first | exact f_5 | exact hQ7) (by rw [c3035, c2942]; rw [c3036, c2943]; rw [c3018, c2925]; first | exact f_6 | exact hQ8) (by rw [c3037, c2944]; rw [c3038, c2945]; rw [c3018, c2925]; first | exact f_7 | exact hQ9) (by rw [c3039, c2946]; rw [c3040, c2947]; rw [c3020, c2927]; first | exact f_8 | exact hQ14) (by rw [c3041, c2948]; rw [c3042, c2949]; rw [c3020, c2927]; first | exact f_9 | exact hQ15) (by rw [c3043, c2950]; rw [c3044, c2951]; rw [c3020, c2927]; first | exact f_10 | exact hQ16) (by rw [c3045, c2952]; rw [c3046, c2953]; rw [c3020, c2927]; first | exact f_11 | exact hQ17) (by rw [c3047, c2954]; rw [c3048, c2955]; rw [c3020, c2927]; first | exact f_12 | exact hQ18) (by rw [c3049, c2956]; rw [c3050, c2957]; rw [c3020, c2927]; first | exact f_13 | exact hQ19) (by rw [c3051, c2958]; rw [c3052, c2959]; rw [c3020, c2927]; first | exact f_14 | exact hQ20) (by rw [c3053, c2960]; rw [c3054, c2961]; rw [c3022, c2929]; first | exact f_15 | exact hQ24) (by rw [c3055, c2962]; rw [c3056, c2963]; rw [c3022, c2929]; first | exact f_16 | exact hQ25) (by rw [c3057, c2964]; rw [c3058, c2965]; rw [c3022, c2929]; first | exact f_17 | exact hQ23) (by rw [c3059, c2966]; rw [c3060, c2967]; rw [c3022, c2929]; first | exact f_18 | exact hQ26) (by rw [c3061, c2968]; rw [c3062, c2969]; rw [c3022, c2929]; first | exact f_19 | exact hQ27) (by rw [c3063, c2970]; rw [c3064, c2971]; rw [c3024, c2931]; first | exact f_20 | exact hQ36) (by rw [c3065, c2972]; rw [c3066, c2973]; rw [c3024, c2931]; first | exact f_21 | exact hQ37) (by rw [c3067, c2974]; rw [c3073, c2980]; rw [c3068, c2975]; rw [c3069, c2976]; rw [c3070, c2977]; rw [c3071, c2978]; rw [c3072, c2979]; rw [c3074, c2981]; rw [c3075, c2982]; rw [c3076, c2983]; rw [c3077, c2984]; rw [c3078, c2985]; exact f_22) (by rw [c3079, c2986]; rw [c3086, c2993]; rw [c3080, c2987]; rw [c3087, c2994]; rw [c3082, c2989]; rw [c3089, c2996]; rw [c3083, c2990]; rw [c3090, c2997]; rw [c3085, c2992]; rw [c3092, c2999]; rw [c3084, c2991]; rw [c3091, c2998]; exact f_23) (by rw [c3080, c2987]; rw [c3079, c2986]; rw [c3081, c2988]; rw [c3088, c2995]; exact f_24) (by rw [c3064, c2971]; rw [c3066, c2973]; rw [c3087, c2994]; rw [c3024, c2931]; rw [c3093, c3000]; exact f_25) (by rw [c3087, c2994]; rw [c3024, c2931]; exact f_26) (by rw [c3094, c3001]; rw [c3097, c3004]; rw [c3095, c3002]; rw [c3098, c3005]; rw [c3096, c3003]; rw [c3099, c3006]; exact f_27) (by omega)
                                  · clear h2912
                                    refine sf_sw1 sf_c15 (fun h3101 => ?_) (fun h3101 => ?_)
                                    · refine sf_aload rfl ?_
                                      refine sf_aload rfl ?_
                                      refine sf_iload rfl ?_
                                      refine sf_iconst sf_c1 (fun z3102 ez3102 => ?_)
                                      refine sf_iadd (by omega) (fun v3103 ev3103 => ?_)
                                      refine sf_sldk (x := x4) (k := 1) (by omega) (by omega) (by omega) ?_
                                      clear ev3103 ez3102
                                      refine sf_aload rfl ?_
                                      refine sf_iload rfl ?_
                                      refine sf_iconst sf_c2 (fun z3104 ez3104 => ?_)
                                      refine sf_iadd (by omega) (fun v3105 ev3105 => ?_)
                                      refine sf_sldk (x := x4) (k := 2) (by omega) (by omega) (by omega) ?_
                                      clear ev3105 ez3104
                                      refine sf_aload rfl ?_
                                      refine sf_iload rfl ?_
                                      refine sf_iconst sf_c3 (fun z3106 ez3106 => ?_)
                                      refine sf_iadd (by omega) (fun v3107 ev3107 => ?_)
                                      refine sf_sldk (x := x4) (k := 3) (by omega) (by omega) (by omega) ?_
                                      clear ev3107 ez3106
                                      refine sf_aload rfl ?_
                                      refine sf_callv5 rfl (by omega) (by omega) ?_
                                      refine sc_W_lineOf_0_130 I_w  (fun v3108 w3109 Iw3109 tw3109 lv3108 uv3108 => ?_)
                                      have c3111 := sf_mf tw3109 (p := 1) (j := 0) rfl
                                      have c3112 := sf_mf tw3109 (p := 71) (j := 1) rfl
                                      have c3113 := sf_mf tw3109 (p := 1) (j := 5) rfl
                                      have c3114 := sf_mf tw3109 (p := 71) (j := 5) rfl
                                      have c3115 := sf_mf tw3109 (p := 13) (j := 1) rfl
                                      have c3116 := sf_mf tw3109 (p := 71) (j := 10) rfl
                                      have c3117 := sf_mf tw3109 (p := 21) (j := 1) rfl
                                      have c3118 := sf_mf tw3109 (p := 71) (j := 18) rfl
                                      have c3119 := sf_mf tw3109 (p := 35) (j := 0) rfl
                                      have c3120 := sf_mf tw3109 (p := 71) (j := 35) rfl
                                      have c3121 := sf_ma tw3109 (p := 3) rfl
                                      have c3122 := sf_ma tw3109 (p := 72) rfl
                                      have c3123 := sf_mg tw3109 (p := 10) rfl
                                      have c3124 := sf_ma tw3109 (p := 93) rfl
                                      have c3125 := sf_ma tw3109 (p := 2) rfl
                                      have c3126 := sf_ma tw3109 (p := 6) rfl
                                      have c3127 := sf_ma tw3109 (p := 75) rfl
                                      have c3128 := sf_ma tw3109 (p := 7) rfl
                                      have c3129 := sf_ma tw3109 (p := 76) rfl
                                      have c3130 := sf_ma tw3109 (p := 8) rfl
                                      have c3131 := sf_ma tw3109 (p := 77) rfl
                                      have c3132 := sf_ma tw3109 (p := 9) rfl
                                      have c3133 := sf_ma tw3109 (p := 78) rfl
                                      have c3134 := sf_ma tw3109 (p := 14) rfl
                                      have c3135 := sf_ma tw3109 (p := 79) rfl
                                      have c3136 := sf_ma tw3109 (p := 15) rfl
                                      have c3137 := sf_ma tw3109 (p := 80) rfl
                                      have c3138 := sf_ma tw3109 (p := 16) rfl
                                      have c3139 := sf_ma tw3109 (p := 81) rfl
                                      have c3140 := sf_ma tw3109 (p := 17) rfl
                                      have c3141 := sf_ma tw3109 (p := 82) rfl
                                      have c3142 := sf_ma tw3109 (p := 18) rfl
                                      have c3143 := sf_ma tw3109 (p := 83) rfl
                                      have c3144 := sf_ma tw3109 (p := 19) rfl
                                      have c3145 := sf_ma tw3109 (p := 84) rfl
                                      have c3146 := sf_ma tw3109 (p := 20) rfl
                                      have c3147 := sf_ma tw3109 (p := 85) rfl
                                      have c3148 := sf_ma tw3109 (p := 24) rfl
                                      have c3149 := sf_ma tw3109 (p := 86) rfl
                                      have c3150 := sf_ma tw3109 (p := 25) rfl
                                      have c3151 := sf_ma tw3109 (p := 87) rfl
                                      have c3152 := sf_ma tw3109 (p := 23) rfl
                                      have c3153 := sf_ma tw3109 (p := 88) rfl
                                      have c3154 := sf_ma tw3109 (p := 26) rfl
                                      have c3155 := sf_ma tw3109 (p := 89) rfl
                                      have c3156 := sf_ma tw3109 (p := 27) rfl
                                      have c3157 := sf_ma tw3109 (p := 90) rfl
                                      have c3158 := sf_ma tw3109 (p := 36) rfl
                                      have c3159 := sf_ma tw3109 (p := 102) rfl
                                      have c3160 := sf_ma tw3109 (p := 37) rfl
                                      have c3161 := sf_ma tw3109 (p := 103) rfl
                                      have c3162 := sf_mf tw3109 (p := 60) (j := 0) rfl
                                      have c3163 := sf_ma tw3109 (p := 61) rfl
                                      have c3164 := sf_ma tw3109 (p := 62) rfl
                                      have c3165 := sf_ma tw3109 (p := 63) rfl
                                      have c3166 := sf_ma tw3109 (p := 65) rfl
                                      have c3167 := sf_ma tw3109 (p := 66) rfl
                                      have c3168 := sf_mf tw3109 (p := 71) (j := 56) rfl
                                      have c3169 := sf_ma tw3109 (p := 121) rfl
                                      have c3170 := sf_ma tw3109 (p := 122) rfl
                                      have c3171 := sf_ma tw3109 (p := 123) rfl
                                      have c3172 := sf_ma tw3109 (p := 125) rfl
                                      have c3173 := sf_ma tw3109 (p := 126) rfl
                                      have c3174 := sf_ma tw3109 (p := 38) rfl
                                      have c3175 := sf_ma tw3109 (p := 40) rfl
                                      have c3176 := sf_ma tw3109 (p := 41) rfl
                                      have c3177 := sf_ma tw3109 (p := 42) rfl
                                      have c3178 := sf_ma tw3109 (p := 43) rfl
                                      have c3179 := sf_ma tw3109 (p := 44) rfl
                                      have c3180 := sf_ma tw3109 (p := 47) rfl
                                      have c3181 := sf_ma tw3109 (p := 104) rfl
                                      have c3182 := sf_ma tw3109 (p := 106) rfl
                                      have c3183 := sf_ma tw3109 (p := 113) rfl
                                      have c3184 := sf_ma tw3109 (p := 107) rfl
                                      have c3185 := sf_ma tw3109 (p := 108) rfl
                                      have c3186 := sf_ma tw3109 (p := 110) rfl
                                      have c3187 := sf_ma tw3109 (p := 109) rfl
                                      have c3188 := sf_mf tw3109 (p := 71) (j := 41) rfl
                                      have c3189 := sf_ma tw3109 (p := 68) rfl
                                      have c3190 := sf_ma tw3109 (p := 69) rfl
                                      have c3191 := sf_ma tw3109 (p := 70) rfl
                                      have c3192 := sf_ma tw3109 (p := 127) rfl
                                      have c3193 := sf_ma tw3109 (p := 128) rfl
                                      have c3194 := sf_ma tw3109 (p := 129) rfl
                                      refine sf_istore (L' := [(0, .inl (.ref 100000)), (1, .inl (.ref 0)), (2, .inl (.ref 71)), (3, .inl (.ref 130)), (4, .inl (.int x4))]) rfl ?_
                                      refine sf_aload rfl ?_
                                      refine sf_aload rfl ?_
                                      refine sf_iload rfl ?_
                                      refine sf_iconst sf_c1 (fun z3195 ez3195 => ?_)
                                      refine sf_iadd (by omega) (fun v3196 ev3196 => ?_)
                                      refine sf_sldk (x := x4) (k := 1) (by omega) (by omega) (by omega) ?_
                                      clear ev3196 ez3195
                                      refine sf_aload rfl ?_
                                      refine sf_iload rfl ?_
                                      refine sf_iconst sf_c2 (fun z3197 ez3197 => ?_)
                                      refine sf_iadd (by omega) (fun v3198 ev3198 => ?_)
                                      refine sf_sldk (x := x4) (k := 2) (by omega) (by omega) (by omega) ?_
                                      clear ev3198 ez3197
                                      refine sf_aload rfl ?_
                                      refine sf_iload rfl ?_
                                      refine sf_iconst sf_c3 (fun z3199 ez3199 => ?_)
                                      refine sf_iadd (by omega) (fun v3200 ev3200 => ?_)
                                      refine sf_sldk (x := x4) (k := 3) (by omega) (by omega) (by omega) ?_
                                      clear ev3200 ez3199
                                      refine sf_callv4 rfl (by omega) (by omega) ?_
                                      refine sf_rv Iw3109 rfl ?_
                                      refine sc_M_lineOf Iw3109  (fun v3201 w3202 Iw3202 tw3202 => ?_)
                                      have c3204 := sf_mf tw3202 (p := 1) (j := 0) rfl
                                      have c3205 := sf_mf tw3202 (p := 71) (j := 1) rfl
                                      have c3206 := sf_mf tw3202 (p := 1) (j := 5) rfl
                                      have c3207 := sf_mf tw3202 (p := 71) (j := 5) rfl
                                      have c3208 := sf_mf tw3202 (p := 13) (j := 1) rfl
                                      have c3209 := sf_mf tw3202 (p := 71) (j := 10) rfl
                                      have c3210 := sf_mf tw3202 (p := 21) (j := 1) rfl
                                      have c3211 := sf_mf tw3202 (p := 71) (j := 18) rfl
                                      have c3212 := sf_mf tw3202 (p := 35) (j := 0) rfl
                                      have c3213 := sf_mf tw3202 (p := 71) (j := 35) rfl
                                      have c3214 := sf_ma tw3202 (p := 3) rfl
                                      have c3215 := sf_ma tw3202 (p := 72) rfl
                                      have c3216 := sf_mg tw3202 (p := 10) rfl
                                      have c3217 := sf_ma tw3202 (p := 93) rfl
                                      have c3218 := sf_mL tw3202 (p := 130) rfl
                                      have c3219 := sf_ma tw3202 (p := 2) rfl
                                      have c3220 := sf_ma tw3202 (p := 6) rfl
                                      have c3221 := sf_ma tw3202 (p := 75) rfl
                                      have c3222 := sf_ma tw3202 (p := 7) rfl
                                      have c3223 := sf_ma tw3202 (p := 76) rfl
                                      have c3224 := sf_ma tw3202 (p := 8) rfl
                                      have c3225 := sf_ma tw3202 (p := 77) rfl
                                      have c3226 := sf_ma tw3202 (p := 9) rfl
                                      have c3227 := sf_ma tw3202 (p := 78) rfl
                                      have c3228 := sf_ma tw3202 (p := 14) rfl
                                      have c3229 := sf_ma tw3202 (p := 79) rfl
                                      have c3230 := sf_ma tw3202 (p := 15) rfl
                                      have c3231 := sf_ma tw3202 (p := 80) rfl
                                      have c3232 := sf_ma tw3202 (p := 16) rfl
                                      have c3233 := sf_ma tw3202 (p := 81) rfl
                                      have c3234 := sf_ma tw3202 (p := 17) rfl
                                      have c3235 := sf_ma tw3202 (p := 82) rfl
                                      have c3236 := sf_ma tw3202 (p := 18) rfl
                                      have c3237 := sf_ma tw3202 (p := 83) rfl
                                      have c3238 := sf_ma tw3202 (p := 19) rfl
                                      have c3239 := sf_ma tw3202 (p := 84) rfl
                                      have c3240 := sf_ma tw3202 (p := 20) rfl
                                      have c3241 := sf_ma tw3202 (p := 85) rfl
                                      have c3242 := sf_ma tw3202 (p := 24) rfl
                                      have c3243 := sf_ma tw3202 (p := 86) rfl
                                      have c3244 := sf_ma tw3202 (p := 25) rfl
                                      have c3245 := sf_ma tw3202 (p := 87) rfl
                                      have c3246 := sf_ma tw3202 (p := 23) rfl
                                      have c3247 := sf_ma tw3202 (p := 88) rfl
                                      have c3248 := sf_ma tw3202 (p := 26) rfl
                                      have c3249 := sf_ma tw3202 (p := 89) rfl
                                      have c3250 := sf_ma tw3202 (p := 27) rfl
                                      have c3251 := sf_ma tw3202 (p := 90) rfl
                                      have c3252 := sf_ma tw3202 (p := 36) rfl
                                      have c3253 := sf_ma tw3202 (p := 102) rfl
                                      have c3254 := sf_ma tw3202 (p := 37) rfl
                                      have c3255 := sf_ma tw3202 (p := 103) rfl
                                      have c3256 := sf_mf tw3202 (p := 60) (j := 0) rfl
                                      have c3257 := sf_ma tw3202 (p := 61) rfl
                                      have c3258 := sf_ma tw3202 (p := 62) rfl
                                      have c3259 := sf_ma tw3202 (p := 63) rfl
                                      have c3260 := sf_ma tw3202 (p := 65) rfl
                                      have c3261 := sf_ma tw3202 (p := 66) rfl
                                      have c3262 := sf_mf tw3202 (p := 71) (j := 56) rfl
                                      have c3263 := sf_ma tw3202 (p := 121) rfl
                                      have c3264 := sf_ma tw3202 (p := 122) rfl
                                      have c3265 := sf_ma tw3202 (p := 123) rfl
                                      have c3266 := sf_ma tw3202 (p := 125) rfl
                                      have c3267 := sf_ma tw3202 (p := 126) rfl
                                      have c3268 := sf_ma tw3202 (p := 38) rfl
                                      have c3269 := sf_ma tw3202 (p := 40) rfl
                                      have c3270 := sf_ma tw3202 (p := 41) rfl
                                      have c3271 := sf_ma tw3202 (p := 42) rfl
                                      have c3272 := sf_ma tw3202 (p := 43) rfl
                                      have c3273 := sf_ma tw3202 (p := 44) rfl
                                      have c3274 := sf_ma tw3202 (p := 47) rfl
                                      have c3275 := sf_ma tw3202 (p := 104) rfl
                                      have c3276 := sf_ma tw3202 (p := 106) rfl
                                      have c3277 := sf_ma tw3202 (p := 113) rfl
                                      have c3278 := sf_ma tw3202 (p := 107) rfl
                                      have c3279 := sf_ma tw3202 (p := 108) rfl
                                      have c3280 := sf_ma tw3202 (p := 110) rfl
                                      have c3281 := sf_ma tw3202 (p := 109) rfl
                                      have c3282 := sf_mf tw3202 (p := 71) (j := 41) rfl
                                      have c3283 := sf_ma tw3202 (p := 68) rfl
                                      have c3284 := sf_ma tw3202 (p := 69) rfl
                                      have c3285 := sf_ma tw3202 (p := 70) rfl
                                      have c3286 := sf_ma tw3202 (p := 127) rfl
                                      have c3287 := sf_ma tw3202 (p := 128) rfl
                                      have c3288 := sf_ma tw3202 (p := 129) rfl
                                      refine sf_lstore (L' := [(5, .inl (.int v3108)), (0, .inl (.ref 100000)), (1, .inl (.ref 0)), (2, .inl (.ref 71)), (3, .inl (.ref 130)), (4, .inl (.int x4))]) rfl ?_
                                      show kt_W_law_1421 N xs K _ _ _ _ _
                                      refine sf_iinc (L' := [(6, .inl (.long v3201)), (5, .inl (.int v3108)), (0, .inl (.ref 100000)), (1, .inl (.ref 0)), (2, .inl (.ref 71)), (3, .inl (.ref 130))]) (x := x4) sf_c8 rfl rfl (by omega) (fun v3289 ev3289 => ?_)
                                      refine sf_can (L' := [(0, .inl (.ref 100000)), (1, .inl (.ref 0)), (2, .inl (.ref 71)), (3, .inl (.ref 130)), (4, .inl (.int v3289))]) rfl ?_
                                      exact ih _ _ _ _ Iw3202 (by omega) (by omega) (by omega) (by omega) (by rw [c3204, c3111]; rw [c3205, c3112]; rw [c3206, c3113]; rw [c3207, c3114]; rw [c3208, c3115]; rw [c3209, c3116]; rw [c3210, c3117]; rw [c3211, c3118]; rw [c3212, c3119]; rw [c3213, c3120]; omega) (by rw [c3214, c3121]; rw [c3215, c3122]; rw [c3205, c3112]; first | exact f_1 | exact hJ) (by rw [c3216, c3123]; rw [c3217, c3124]; first | exact f_2 | exact hK2) (by rw [c3219, c3125]; rw [c3215, c3122]; rw [c3205, c3112]; first | exact f_3 | exact hQ2) (by rw [c3220, c3126]; rw [c3221, c3127]; rw [c3207, c3114]; first | exact f_4 | exact hQ6) (by rw [c3222, c3128]; rw [c3223, c3129]; rw [c3207, c3114]; first | exact f_5 | exact hQ7) (by rw [c3224, c3130]; rw [c3225, c3131]; rw [c3207, c3114]; first | exact f_6 | exact hQ8) (by rw [c3226, c3132]; rw [c3227, c3133]; rw [c3207, c3114]; first | exact f_7 | exact hQ9) (by rw [c3228, c3134]; rw [c3229, c3135]; rw [c3209, c3116]; first | exact f_8 | exact hQ14) (by rw [c3230, c3136]; rw [c3231, c3137]; rw [c3209, c3116]; first | exact f_9 | exact hQ15) (by rw [c3232, c3138]; rw [c3233, c3139]; rw [c3209, c3116]; first | exact f_10 | exact hQ16) (by rw [c3234, c3140]; rw [c3235, c3141]; rw [c3209, c3116]; first | exact f_11 | exact hQ17) (by rw [c3236, c3142]; rw [c3237, c3143]; rw [c3209, c3116]; first | exact f_12 | exact hQ18) (by rw [c3238, c3144]; rw [c3239, c3145]; rw [c3209, c3116]; first | exact f_13 | exact hQ19) (by rw [c3240, c3146]; rw [c3241, c3147]; rw [c3209, c3116]; first | exact f_14 | exact hQ20) (by rw [c3242, c3148]; rw [c3243, c3149]; rw [c3211, c3118]; first | exact f_15 | exact hQ24) (by rw [c3244, c3150]; rw [c3245, c3151]; rw [c3211, c3118]; first | exact f_16 | exact hQ25) (by rw [c3246, c3152]; rw [c3247, c3153]; rw [c3211, c3118]; first | exact f_17 | exact hQ23) (by rw [c3248, c3154]; rw [c3249, c3155]; rw [c3211, c3118]; first | exact f_18 | exact hQ26) (by rw [c3250, c3156]; rw [c3251, c3157]; rw [c3211, c3118]; first | exact f_19 | exact hQ27) (by rw [c3252, c3158]; rw [c3253, c3159]; rw [c3213, c3120]; first | exact f_20 | exact hQ36) (by rw [c3254, c3160]; rw [c3255, c3161]; rw [c3213, c3120]; first | exact f_21 | exact hQ37) (by rw [c3256, c3162]; rw [c3262, c3168]; rw [c3257, c3163]; rw [c3258, c3164]; rw [c3259, c3165]; rw [c3260, c3166]; rw [c3261, c3167]; rw [c3263, c3169]; rw [c3264, c3170]; rw [c3265, c3171]; rw [c3266, c3172]; rw [c3267, c3173]; exact f_22) (by rw [c3268, c3174]; rw [c3275, c3181]; rw [c3269, c3175]; rw [c3276, c3182]; rw [c3271, c3177]; rw [c3278, c3184]; rw [c3272, c3178]; rw [c3279, c3185]; rw [c3274, c3180]; rw [c3281, c3187]; rw [c3273, c3179]; rw [c3280, c3186]; exact f_23) (by rw [c3269, c3175]; rw [c3268, c3174]; rw [c3270, c3176]; rw [c3277, c3183]; exact f_24) (by rw [c3253, c3159]; rw [c3255, c3161]; rw [c3276, c3182]; rw [c3213, c3120]; rw [c3282, c3188]; exact f_25) (by rw [c3276, c3182]; rw [c3213, c3120]; exact f_26) (by rw [c3283, c3189]; rw [c3286, c3192]; rw [c3284, c3190]; rw [c3287, c3193]; rw [c3285, c3191]; rw [c3288, c3194]; exact f_27) (by omega)
                                    · clear h3101
                                      refine sf_sw1 sf_c16 (fun h3290 => ?_) (fun h3290 => ?_)
                                      · refine sf_aload rfl ?_
                                        refine sf_aload rfl ?_
                                        refine sf_iload rfl ?_
                                        refine sf_iconst sf_c1 (fun z3291 ez3291 => ?_)
                                        refine sf_iadd (by omega) (fun v3292 ev3292 => ?_)
                                        refine sf_sldk (x := x4) (k := 1) (by omega) (by omega) (by omega) ?_
                                        clear ev3292 ez3291
                                        refine sf_aload rfl ?_
                                        refine sf_callv3 rfl (by omega) (by omega) ?_
                                        refine sc_W_accept_0_130 I_w (by exact sf_JQ f_1 f_3 (by omega)) (fun v3293 w3294 Iw3294 tw3294 lv3293 uv3293 q3295_0 q3295_1 => ?_)
                                        have c3296 := sf_mf tw3294 (p := 1) (j := 0) rfl
                                        have c3297 := sf_mf tw3294 (p := 71) (j := 1) rfl
                                        have c3298 := sf_mf tw3294 (p := 1) (j := 5) rfl
                                        have c3299 := sf_mf tw3294 (p := 71) (j := 5) rfl
                                        have c3300 := sf_mf tw3294 (p := 13) (j := 1) rfl
                                        have c3301 := sf_mf tw3294 (p := 71) (j := 10) rfl
                                        have c3302 := sf_mf tw3294 (p := 21) (j := 1) rfl
                                        have c3303 := sf_mf tw3294 (p := 71) (j := 18) rfl
                                        have c3304 := sf_mf tw3294 (p := 35) (j := 0) rfl
                                        have c3305 := sf_mf tw3294 (p := 71) (j := 35) rfl
                                        have c3306 := sf_ma tw3294 (p := 3) rfl
                                        have c3307 := sf_ma tw3294 (p := 72) rfl
                                        have c3308 := sf_mg tw3294 (p := 10) rfl
                                        have c3309 := sf_ma tw3294 (p := 93) rfl
                                        have c3310 := sf_ma tw3294 (p := 2) rfl
                                        have c3311 := sf_ma tw3294 (p := 6) rfl
                                        have c3312 := sf_ma tw3294 (p := 75) rfl
                                        have c3313 := sf_ma tw3294 (p := 7) rfl
                                        have c3314 := sf_ma tw3294 (p := 76) rfl
                                        have c3315 := sf_ma tw3294 (p := 8) rfl
                                        have c3316 := sf_ma tw3294 (p := 77) rfl
                                        have c3317 := sf_ma tw3294 (p := 9) rfl
                                        have c3318 := sf_ma tw3294 (p := 78) rfl
                                        have c3319 := sf_ma tw3294 (p := 14) rfl
                                        have c3320 := sf_ma tw3294 (p := 79) rfl
                                        have c3321 := sf_ma tw3294 (p := 15) rfl
                                        have c3322 := sf_ma tw3294 (p := 80) rfl
                                        have c3323 := sf_ma tw3294 (p := 16) rfl
                                        have c3324 := sf_ma tw3294 (p := 81) rfl
                                        have c3325 := sf_ma tw3294 (p := 17) rfl
                                        have c3326 := sf_ma tw3294 (p := 82) rfl
                                        have c3327 := sf_ma tw3294 (p := 18) rfl
                                        have c3328 := sf_ma tw3294 (p := 83) rfl
                                        have c3329 := sf_ma tw3294 (p := 19) rfl
                                        have c3330 := sf_ma tw3294 (p := 84) rfl
                                        have c3331 := sf_ma tw3294 (p := 20) rfl
                                        have c3332 := sf_ma tw3294 (p := 85) rfl
                                        have c3333 := sf_ma tw3294 (p := 24) rfl
                                        have c3334 := sf_ma tw3294 (p := 86) rfl
                                        have c3335 := sf_ma tw3294 (p := 25) rfl
                                        have c3336 := sf_ma tw3294 (p := 87) rfl
                                        have c3337 := sf_ma tw3294 (p := 23) rfl
                                        have c3338 := sf_ma tw3294 (p := 88) rfl
                                        have c3339 := sf_ma tw3294 (p := 26) rfl
                                        have c3340 := sf_ma tw3294 (p := 89) rfl
                                        have c3341 := sf_ma tw3294 (p := 27) rfl
                                        have c3342 := sf_ma tw3294 (p := 90) rfl
                                        have c3343 := sf_ma tw3294 (p := 36) rfl
                                        have c3344 := sf_ma tw3294 (p := 102) rfl
                                        have c3345 := sf_ma tw3294 (p := 37) rfl
                                        have c3346 := sf_ma tw3294 (p := 103) rfl
                                        have c3347 := sf_ma tw3294 (p := 63) rfl
                                        have c3348 := sf_mf tw3294 (p := 71) (j := 56) rfl
                                        have c3349 := sf_ma tw3294 (p := 121) rfl
                                        have c3350 := sf_ma tw3294 (p := 122) rfl
                                        have c3351 := sf_ma tw3294 (p := 123) rfl
                                        have c3352 := sf_ma tw3294 (p := 125) rfl
                                        have c3353 := sf_ma tw3294 (p := 126) rfl
                                        have c3354 := sf_ma tw3294 (p := 38) rfl
                                        have c3355 := sf_ma tw3294 (p := 42) rfl
                                        have c3356 := sf_ma tw3294 (p := 43) rfl
                                        have c3357 := sf_ma tw3294 (p := 44) rfl
                                        have c3358 := sf_ma tw3294 (p := 47) rfl
                                        have c3359 := sf_ma tw3294 (p := 104) rfl
                                        have c3360 := sf_ma tw3294 (p := 106) rfl
                                        have c3361 := sf_ma tw3294 (p := 113) rfl
                                        have c3362 := sf_ma tw3294 (p := 107) rfl
                                        have c3363 := sf_ma tw3294 (p := 108) rfl
                                        have c3364 := sf_ma tw3294 (p := 110) rfl
                                        have c3365 := sf_ma tw3294 (p := 109) rfl
                                        have c3366 := sf_mf tw3294 (p := 71) (j := 41) rfl
                                        have c3367 := sf_ma tw3294 (p := 68) rfl
                                        have c3368 := sf_ma tw3294 (p := 69) rfl
                                        have c3369 := sf_ma tw3294 (p := 70) rfl
                                        have c3370 := sf_ma tw3294 (p := 127) rfl
                                        have c3371 := sf_ma tw3294 (p := 128) rfl
                                        have c3372 := sf_ma tw3294 (p := 129) rfl
                                        have F0 := q3295_0
                                        have F1 := q3295_1
                                        clear q3295_0 q3295_1
                                        refine sf_istore (L' := [(0, .inl (.ref 100000)), (1, .inl (.ref 0)), (2, .inl (.ref 71)), (3, .inl (.ref 130)), (4, .inl (.int x4))]) rfl ?_
                                        refine sf_aload rfl ?_
                                        refine sf_aload rfl ?_
                                        refine sf_iload rfl ?_
                                        refine sf_iconst sf_c1 (fun z3373 ez3373 => ?_)
                                        refine sf_iadd (by omega) (fun v3374 ev3374 => ?_)
                                        refine sf_sldk (x := x4) (k := 1) (by omega) (by omega) (by omega) ?_
                                        clear ev3374 ez3373
                                        refine sf_callv2 rfl (by omega) (by omega) ?_
                                        refine sf_rv Iw3294 rfl ?_
                                        refine sc_M_accept Iw3294 (by rw [c3306]; rw [c3307]; rw [c3297]; exact f_1) (fun v3375 w3376 Iw3376 tw3376 q3377_0 q3377_1 => ?_)
                                        rw [c3306] at q3377_0
                                        rw [c3307] at q3377_0
                                        rw [c3312] at q3377_0
                                        rw [c3314] at q3377_0
                                        rw [c3316] at q3377_0
                                        rw [c3318] at q3377_0
                                        rw [c3320] at q3377_0
                                        rw [c3322] at q3377_0
                                        rw [c3330] at q3377_0
                                        rw [c3332] at q3377_0
                                        rw [c3309] at q3377_0
                                        rw [c3344] at q3377_0
                                        rw [c3346] at q3377_0
                                        rw [c3359] at q3377_0
                                        rw [c3360] at q3377_0
                                        rw [c3362] at q3377_0
                                        rw [c3363] at q3377_0
                                        rw [c3297] at q3377_0
                                        rw [c3299] at q3377_0
                                        rw [c3301] at q3377_0
                                        rw [c3305] at q3377_0
                                        rw [c3366] at q3377_0
                                        rw [c3348] at q3377_0
                                        rw [c3359] at q3377_1
                                        rw [c3360] at q3377_1
                                        rw [c3362] at q3377_1
                                        rw [c3365] at q3377_1
                                        rw [c3364] at q3377_1
                                        rw [c3361] at q3377_1
                                        rw [c3349] at q3377_1
                                        rw [c3350] at q3377_1
                                        rw [c3352] at q3377_1
                                        rw [c3353] at q3377_1
                                        rw [c3366] at q3377_1
                                        rw [c3348] at q3377_1
                                        have c3378 := sf_mf tw3376 (p := 1) (j := 0) rfl
                                        have c3379 := sf_mf tw3376 (p := 71) (j := 1) rfl
                                        have c3380 := sf_mf tw3376 (p := 1) (j := 5) rfl
                                        have c3381 := sf_mf tw3376 (p := 71) (j := 5) rfl
                                        have c3382 := sf_mf tw3376 (p := 13) (j := 1) rfl
                                        have c3383 := sf_mf tw3376 (p := 71) (j := 10) rfl
                                        have c3384 := sf_mf tw3376 (p := 21) (j := 1) rfl
                                        have c3385 := sf_mf tw3376 (p := 71) (j := 18) rfl
                                        have c3386 := sf_mf tw3376 (p := 35) (j := 0) rfl
                                        have c3387 := sf_mf tw3376 (p := 71) (j := 35) rfl
                                        have c3388 := sf_ma tw3376 (p := 3) rfl
                                        have c3389 := sf_ma tw3376 (p := 72) rfl
                                        have c3390 := sf_mg tw3376 (p := 10) rfl
                                        have c3391 := sf_ma tw3376 (p := 93) rfl
                                        have c3392 := sf_mL tw3376 (p := 130) rfl
                                        have c3393 := sf_ma tw3376 (p := 2) rfl
                                        have c3394 := sf_ma tw3376 (p := 6) rfl
                                        have c3395 := sf_ma tw3376 (p := 75) rfl
                                        have c3396 := sf_ma tw3376 (p := 7) rfl
                                        have c3397 := sf_ma tw3376 (p := 76) rfl
                                        have c3398 := sf_ma tw3376 (p := 8) rfl
                                        have c3399 := sf_ma tw3376 (p := 77) rfl
                                        have c3400 := sf_ma tw3376 (p := 9) rfl
                                        have c3401 := sf_ma tw3376 (p := 78) rfl
                                        have c3402 := sf_ma tw3376 (p := 14) rfl
                                        have c3403 := sf_ma tw3376 (p := 79) rfl
                                        have c3404 := sf_ma tw3376 (p := 15) rfl
                                        have c3405 := sf_ma tw3376 (p := 80) rfl
                                        have c3406 := sf_ma tw3376 (p := 16) rfl
                                        have c3407 := sf_ma tw3376 (p := 81) rfl
                                        have c3408 := sf_ma tw3376 (p := 17) rfl
                                        have c3409 := sf_ma tw3376 (p := 82) rfl
                                        have c3410 := sf_ma tw3376 (p := 18) rfl
                                        have c3411 := sf_ma tw3376 (p := 83) rfl
                                        have c3412 := sf_ma tw3376 (p := 19) rfl
                                        have c3413 := sf_ma tw3376 (p := 84) rfl
                                        have c3414 := sf_ma tw3376 (p := 20) rfl
                                        have c3415 := sf_ma tw3376 (p := 85) rfl
                                        have c3416 := sf_ma tw3376 (p := 24) rfl
                                        have c3417 := sf_ma tw3376 (p := 86) rfl
                                        have c3418 := sf_ma tw3376 (p := 25) rfl
                                        have c3419 := sf_ma tw3376 (p := 87) rfl
                                        have c3420 := sf_ma tw3376 (p := 23) rfl
                                        have c3421 := sf_ma tw3376 (p := 88) rfl
                                        have c3422 := sf_ma tw3376 (p := 26) rfl
                                        have c3423 := sf_ma tw3376 (p := 89) rfl
                                        have c3424 := sf_ma tw3376 (p := 27) rfl
                                        have c3425 := sf_ma tw3376 (p := 90) rfl
                                        have c3426 := sf_ma tw3376 (p := 36) rfl
                                        have c3427 := sf_ma tw3376 (p := 102) rfl
                                        have c3428 := sf_ma tw3376 (p := 37) rfl
                                        have c3429 := sf_ma tw3376 (p := 103) rfl
                                        have c3430 := sf_mf tw3376 (p := 60) (j := 0) rfl
                                        have c3431 := sf_ma tw3376 (p := 61) rfl
                                        have c3432 := sf_ma tw3376 (p := 62) rfl
                                        have c3433 := sf_ma tw3376 (p := 63) rfl
                                        have c3434 := sf_ma tw3376 (p := 65) rfl
                                        have c3435 := sf_ma tw3376 (p := 66) rfl
                                        have c3436 := sf_ma tw3376 (p := 123) rfl
                                        have c3437 := sf_ma tw3376 (p := 38) rfl
                                        have c3438 := sf_ma tw3376 (p := 40) rfl
                                        have c3439 := sf_ma tw3376 (p := 41) rfl
                                        have c3440 := sf_ma tw3376 (p := 42) rfl
                                        have c3441 := sf_ma tw3376 (p := 43) rfl
                                        have c3442 := sf_ma tw3376 (p := 44) rfl
                                        have c3443 := sf_ma tw3376 (p := 47) rfl
                                        have c3444 := sf_ma tw3376 (p := 104) rfl
                                        have c3445 := sf_ma tw3376 (p := 107) rfl
                                        have c3446 := sf_ma tw3376 (p := 108) rfl
                                        have c3447 := sf_ma tw3376 (p := 110) rfl
                                        have c3448 := sf_ma tw3376 (p := 109) rfl
                                        have c3449 := sf_ma tw3376 (p := 68) rfl
                                        have c3450 := sf_ma tw3376 (p := 69) rfl
                                        have c3451 := sf_ma tw3376 (p := 70) rfl
                                        have c3452 := sf_ma tw3376 (p := 127) rfl
                                        have c3453 := sf_ma tw3376 (p := 128) rfl
                                        have c3454 := sf_ma tw3376 (p := 129) rfl
                                        have G0 := q3377_0
                                        have G1 := q3377_1
                                        clear q3377_0 q3377_1
                                        have b12 := (sf_fb I_w (p := 71) (ci := 9) (j := 35) rfl rfl)
                                        have b40 := (sf_fb I_w (p := 71) (ci := 9) (j := 56) rfl rfl)
                                        have b24 := (sf_fb I_w (p := 71) (ci := 9) (j := 1) rfl rfl)
                                        have b4n := (sf_fb I_w (p := 71) (ci := 9) (j := 5) rfl rfl)
                                        have hda : 0 ≤ (xs (x4.toInt.toNat + 1)).toInt → (xs (x4.toInt.toNat + 1)).toInt < (sf_f w 71 35).toInt → (sf_a w 40 (xs (x4.toInt.toNat + 1)).toInt.toNat).toInt = (sf_a w 106 (xs (x4.toInt.toNat + 1)).toInt.toNat).toInt := fun h1 h2 => by rw [f_23.2.1 _ (by omega)]
                                        have hdl : 0 ≤ (xs (x4.toInt.toNat + 1)).toInt → (xs (x4.toInt.toNat + 1)).toInt < (sf_f w 71 35).toInt → (sf_a w 38 (xs (x4.toInt.toNat + 1)).toInt.toNat).toInt = (sf_a w 104 (xs (x4.toInt.toNat + 1)).toInt.toNat).toInt := fun h1 h2 => by rw [f_23.1 _ (by omega)]
                                        have hCA : 0 ≤ (xs (x4.toInt.toNat + 1)).toInt → (xs (x4.toInt.toNat + 1)).toInt < (sf_f w 71 35).toInt → ((sc_ok (sc_rc (sc_b (sf_a w 2) (sf_a w 6) (sf_a w 7) (sf_a w 8) (sf_a w 9) (sf_a w 3) (sp_ag (sf_g w 10)) (sf_f w 1 5).toInt (sf_f w 1 0).toInt) (sf_a w 2) (sf_a w 14) (sf_a w 15) (sf_a w 19) (sf_a w 20) (sf_f w 13 1).toInt (sf_a w 42) (sf_a w 43) (sf_a w 36 (xs (x4.toInt.toNat + 1)).toInt.toNat).toInt (4 * (xs (x4.toInt.toNat + 1)).toInt).toNat) (sf_a w 38 (xs (x4.toInt.toNat + 1)).toInt.toNat).toInt) ↔ (sc_ok (sc_rm (sc_b (sf_a w 72) (sf_a w 75) (sf_a w 76) (sf_a w 77) (sf_a w 78) (sf_a w 3) (sp_aa (sf_a w 93)) (sf_f w 71 5).toInt (sf_f w 71 1).toInt) (sf_a w 72) (sf_a w 79) (sf_a w 80) (sf_a w 84) (sf_a w 85) (sf_f w 71 10).toInt (sf_a w 107) (sf_a w 108) (sf_a w 102 (xs (x4.toInt.toNat + 1)).toInt.toNat).toInt (4 * (xs (x4.toInt.toNat + 1)).toInt).toNat) (sf_a w 104 (xs (x4.toInt.toNat + 1)).toInt.toNat).toInt)) := fun h1 h2 => sc_okE (hdl h1 h2) (fun k hk => by
                                          have h4 := (sf_arr I_w (p := 38) rfl).2.1 (xs (x4.toInt.toNat + 1)).toInt.toNat (by omega)
                                          have hr48 : (4 * (xs (x4.toInt.toNat + 1)).toInt).toNat + k < 48 := by omega
                                          have hgd := (sf_arr I_w (p := 42) rfl).2.1 ((4 * (xs (x4.toInt.toNat + 1)).toInt).toNat + k) hr48
                                          have hge := f_23.2.2.1 ((4 * (xs (x4.toInt.toNat + 1)).toInt).toNat + k) (by omega)
                                          refine sc_rE f_1 f_3 f_8 f_9 f_13 f_14 (by omega) (sc_bE f_1 f_3 f_4 f_5 f_6 f_7 (fun i hi => (sf_arr I_w (p := 77) rfl).2.1 i (by omega)) (fun j hj => congrArg Int32.toInt (f_2 _ j (by omega) hj)) (by omega) (by omega) (by rw [hge])) (sc_br (by omega)).2 (f_23.2.2.2.1 _ (by omega)) (by rw [f_20 _ (by omega)]))
                                        have hcc := f_22.1
                                        have hrc := sl_caE F0 G0 (by omega) (fun h9 => by rw [hda h9.1 (by omega)]) (fun h9 => sl_LE (by omega) f_20 f_21 f_23.2.1 (by omega) (by omega) f_25) (fun h9 => hCA h9.1 (by omega)) (fun h9 => by rw [hdl h9.1 (by omega), hcc])
                                        have hA := sl_ACCz (dz := (xs (x4.toInt.toNat + 1)).toInt) f_22 f_23 f_24 f_25 f_26 (by omega) (fun x hx => (sf_arr I_w (p := 38) rfl).2.1 x hx) (fun i hi => (sf_arr I_w (p := 44) rfl).2.1 i hi) hrc (fun h9 => by obtain ⟨k1, k2, k3, k4, k5⟩ := sl_ca0 G0 h9; exact ⟨k1.1, k1.2, by omega, k3, by omega⟩) F1 G1
                                        clear F0 G0 F1 G1 hCA
                                        obtain ⟨hRL, hRD, hRF, hRT, hRU⟩ := hA
                                        refine sf_lstore (L' := [(5, .inl (.int v3293)), (0, .inl (.ref 100000)), (1, .inl (.ref 0)), (2, .inl (.ref 71)), (3, .inl (.ref 130)), (4, .inl (.int x4))]) rfl ?_
                                        show kt_W_law_1421 N xs K _ _ _ _ _
                                        refine sf_iinc (L' := [(6, .inl (.long v3375)), (5, .inl (.int v3293)), (0, .inl (.ref 100000)), (1, .inl (.ref 0)), (2, .inl (.ref 71)), (3, .inl (.ref 130))]) (x := x4) sf_c8 rfl rfl (by omega) (fun v3455 ev3455 => ?_)
                                        refine sf_can (L' := [(0, .inl (.ref 100000)), (1, .inl (.ref 0)), (2, .inl (.ref 71)), (3, .inl (.ref 130)), (4, .inl (.int v3455))]) rfl ?_
                                        exact ih _ _ _ _ Iw3376 (by omega) (by omega) (by omega) (by omega) (by rw [c3378, c3296]; rw [c3379, c3297]; rw [c3380, c3298]; rw [c3381, c3299]; rw [c3382, c3300]; rw [c3383, c3301]; rw [c3384, c3302]; rw [c3385, c3303]; rw [c3386, c3304]; rw [c3387, c3305]; omega) (by rw [c3388, c3306]; rw [c3389, c3307]; rw [c3379, c3297]; first | exact f_1 | exact hJ) (by rw [c3390, c3308]; rw [c3391, c3309]; first | exact f_2 | exact hK2) (by rw [c3393, c3310]; rw [c3389, c3307]; rw [c3379, c3297]; first | exact f_3 | exact hQ2) (by rw [c3394, c3311]; rw [c3395, c3312]; rw [c3381, c3299]; first | exact f_4 | exact hQ6) (by rw [c3396, c3313]; rw [c3397, c3314]; rw [c3381, c3299]; first | exact f_5 | exact hQ7) (by rw [c3398, c3315]; rw [c3399, c3316]; rw [c3381, c3299]; first | exact f_6 | exact hQ8) (by rw [c3400, c3317]; rw [c3401, c3318]; rw [c3381, c3299]; first | exact f_7 | exact hQ9) (by rw [c3402, c3319]; rw [c3403, c3320]; rw [c3383, c3301]; first | exact f_8 | exact hQ14) (by rw [c3404, c3321]; rw [c3405, c3322]; rw [c3383, c3301]; first | exact f_9 | exact hQ15) (by rw [c3406, c3323]; rw [c3407, c3324]; rw [c3383, c3301]; first | exact f_10 | exact hQ16) (by rw [c3408, c3325]; rw [c3409, c3326]; rw [c3383, c3301]; first | exact f_11 | exact hQ17) (by rw [c3410, c3327]; rw [c3411, c3328]; rw [c3383, c3301]; first | exact f_12 | exact hQ18) (by rw [c3412, c3329]; rw [c3413, c3330]; rw [c3383, c3301]; first | exact f_13 | exact hQ19) (by rw [c3414, c3331]; rw [c3415, c3332]; rw [c3383, c3301]; first | exact f_14 | exact hQ20) (by rw [c3416, c3333]; rw [c3417, c3334]; rw [c3385, c3303]; first | exact f_15 | exact hQ24) (by rw [c3418, c3335]; rw [c3419, c3336]; rw [c3385, c3303]; first | exact f_16 | exact hQ25) (by rw [c3420, c3337]; rw [c3421, c3338]; rw [c3385, c3303]; first | exact f_17 | exact hQ23) (by rw [c3422, c3339]; rw [c3423, c3340]; rw [c3385, c3303]; first | exact f_18 | exact hQ26) (by rw [c3424, c3341]; rw [c3425, c3342]; rw [c3385, c3303]; first | exact f_19 | exact hQ27) (by rw [c3426, c3343]; rw [c3427, c3344]; rw [c3387, c3305]; first | exact f_20 | exact hQ36) (by rw [c3428, c3345]; rw [c3429, c3346]; rw [c3387, c3305]; first | exact f_21 | exact hQ37) (by rw [c3430]; rw [c3431]; rw [c3432]; rw [c3433, c3347]; rw [c3434]; rw [c3435]; rw [c3436, c3351]; exact hRL) (by rw [c3437, c3354]; rw [c3444, c3359]; rw [c3438]; rw [c3440, c3355]; rw [c3445, c3362]; rw [c3441, c3356]; rw [c3446, c3363]; rw [c3443, c3358]; rw [c3448, c3365]; rw [c3442, c3357]; rw [c3447, c3364]; exact hRD) (by rw [c3438]; rw [c3437, c3354]; rw [c3439]; exact hRF) (by rw [c3427, c3344]; rw [c3429, c3346]; rw [c3387, c3305]; exact hRT) (by rw [c3387, c3305]; exact hRU) (by rw [c3449, c3367]; rw [c3452, c3370]; rw [c3450, c3368]; rw [c3453, c3371]; rw [c3451, c3369]; rw [c3454, c3372]; exact f_27) (by omega)
                                      · clear h3290
                                        refine sf_sw1 sf_c17 (fun h3456 => ?_) (fun h3456 => ?_)
                                        · refine sf_aload rfl ?_
                                          refine sf_aload rfl ?_
                                          refine sf_iload rfl ?_
                                          refine sf_iconst sf_c1 (fun z3457 ez3457 => ?_)
                                          refine sf_iadd (by omega) (fun v3458 ev3458 => ?_)
                                          refine sf_sldk (x := x4) (k := 1) (by omega) (by omega) (by omega) ?_
                                          clear ev3458 ez3457
                                          refine sf_aload rfl ?_
                                          refine sf_iload rfl ?_
                                          refine sf_iconst sf_c2 (fun z3459 ez3459 => ?_)
                                          refine sf_iadd (by omega) (fun v3460 ev3460 => ?_)
                                          refine sf_sldk (x := x4) (k := 2) (by omega) (by omega) (by omega) ?_
                                          clear ev3460 ez3459
                                          refine sf_aload rfl ?_
                                          refine sf_iload rfl ?_
                                          refine sf_iconst sf_c3 (fun z3461 ez3461 => ?_)
                                          refine sf_iadd (by omega) (fun v3462 ev3462 => ?_)
                                          refine sf_sldk (x := x4) (k := 3) (by omega) (by omega) (by omega) ?_
                                          clear ev3462 ez3461
                                          refine sf_aload rfl ?_
                                          refine sf_iload rfl ?_
                                          refine sf_iconst sf_c4 (fun z3463 ez3463 => ?_)
                                          refine sf_iadd (by omega) (fun v3464 ev3464 => ?_)
                                          refine sf_sldk (x := x4) (k := 4) (by omega) (by omega) (by omega) ?_
                                          clear ev3464 ez3463
                                          refine sf_aload rfl ?_
                                          refine sf_callv6 rfl (by omega) (by omega) ?_
                                          refine sc_W_amend_0_130 I_w (by exact sf_JQ f_1 f_3 (by omega)) (fun v3465 w3466 Iw3466 tw3466 lv3465 uv3465 q3467_0 q3467_1 q3467_2 => ?_)
                                          have c3468 := sf_mf tw3466 (p := 1) (j := 0) rfl
                                          have c3469 := sf_mf tw3466 (p := 71) (j := 1) rfl
                                          have c3470 := sf_mf tw3466 (p := 1) (j := 5) rfl
                                          have c3471 := sf_mf tw3466 (p := 71) (j := 5) rfl
                                          have c3472 := sf_mf tw3466 (p := 13) (j := 1) rfl
                                          have c3473 := sf_mf tw3466 (p := 71) (j := 10) rfl
                                          have c3474 := sf_mf tw3466 (p := 21) (j := 1) rfl
                                          have c3475 := sf_mf tw3466 (p := 71) (j := 18) rfl
                                          have c3476 := sf_mf tw3466 (p := 35) (j := 0) rfl
                                          have c3477 := sf_mf tw3466 (p := 71) (j := 35) rfl
                                          have c3478 := sf_ma tw3466 (p := 3) rfl
                                          have c3479 := sf_ma tw3466 (p := 72) rfl
                                          have c3480 := sf_mg tw3466 (p := 10) rfl
                                          have c3481 := sf_ma tw3466 (p := 93) rfl
                                          have c3482 := sf_ma tw3466 (p := 2) rfl
                                          have c3483 := sf_ma tw3466 (p := 6) rfl
                                          have c3484 := sf_ma tw3466 (p := 75) rfl
                                          have c3485 := sf_ma tw3466 (p := 7) rfl
                                          have c3486 := sf_ma tw3466 (p := 76) rfl
                                          have c3487 := sf_ma tw3466 (p := 8) rfl
                                          have c3488 := sf_ma tw3466 (p := 77) rfl
                                          have c3489 := sf_ma tw3466 (p := 9) rfl
                                          have c3490 := sf_ma tw3466 (p := 78) rfl
                                          have c3491 := sf_ma tw3466 (p := 14) rfl
                                          have c3492 := sf_ma tw3466 (p := 79) rfl
                                          have c3493 := sf_ma tw3466 (p := 15) rfl
                                          have c3494 := sf_ma tw3466 (p := 80) rfl
                                          have c3495 := sf_ma tw3466 (p := 16) rfl
                                          have c3496 := sf_ma tw3466 (p := 81) rfl
                                          have c3497 := sf_ma tw3466 (p := 17) rfl
                                          have c3498 := sf_ma tw3466 (p := 82) rfl
                                          have c3499 := sf_ma tw3466 (p := 18) rfl
                                          have c3500 := sf_ma tw3466 (p := 83) rfl
                                          have c3501 := sf_ma tw3466 (p := 19) rfl
                                          have c3502 := sf_ma tw3466 (p := 84) rfl
                                          have c3503 := sf_ma tw3466 (p := 20) rfl
                                          have c3504 := sf_ma tw3466 (p := 85) rfl
                                          have c3505 := sf_ma tw3466 (p := 24) rfl
                                          have c3506 := sf_ma tw3466 (p := 86) rfl
                                          have c3507 := sf_ma tw3466 (p := 25) rfl
                                          have c3508 := sf_ma tw3466 (p := 87) rfl
                                          have c3509 := sf_ma tw3466 (p := 23) rfl
                                          have c3510 := sf_ma tw3466 (p := 88) rfl
                                          have c3511 := sf_ma tw3466 (p := 26) rfl
                                          have c3512 := sf_ma tw3466 (p := 89) rfl
                                          have c3513 := sf_ma tw3466 (p := 27) rfl
                                          have c3514 := sf_ma tw3466 (p := 90) rfl
                                          have c3515 := sf_ma tw3466 (p := 36) rfl
                                          have c3516 := sf_ma tw3466 (p := 102) rfl
                                          have c3517 := sf_ma tw3466 (p := 37) rfl
                                          have c3518 := sf_ma tw3466 (p := 103) rfl
                                          have c3519 := sf_mf tw3466 (p := 60) (j := 0) rfl
                                          have c3520 := sf_ma tw3466 (p := 61) rfl
                                          have c3521 := sf_ma tw3466 (p := 63) rfl
                                          have c3522 := sf_ma tw3466 (p := 65) rfl
                                          have c3523 := sf_ma tw3466 (p := 66) rfl
                                          have c3524 := sf_mf tw3466 (p := 71) (j := 56) rfl
                                          have c3525 := sf_ma tw3466 (p := 121) rfl
                                          have c3526 := sf_ma tw3466 (p := 122) rfl
                                          have c3527 := sf_ma tw3466 (p := 123) rfl
                                          have c3528 := sf_ma tw3466 (p := 125) rfl
                                          have c3529 := sf_ma tw3466 (p := 126) rfl
                                          have c3530 := sf_ma tw3466 (p := 38) rfl
                                          have c3531 := sf_ma tw3466 (p := 40) rfl
                                          have c3532 := sf_ma tw3466 (p := 41) rfl
                                          have c3533 := sf_ma tw3466 (p := 42) rfl
                                          have c3534 := sf_ma tw3466 (p := 43) rfl
                                          have c3535 := sf_ma tw3466 (p := 47) rfl
                                          have c3536 := sf_ma tw3466 (p := 104) rfl
                                          have c3537 := sf_ma tw3466 (p := 106) rfl
                                          have c3538 := sf_ma tw3466 (p := 113) rfl
                                          have c3539 := sf_ma tw3466 (p := 107) rfl
                                          have c3540 := sf_ma tw3466 (p := 108) rfl
                                          have c3541 := sf_ma tw3466 (p := 110) rfl
                                          have c3542 := sf_ma tw3466 (p := 109) rfl
                                          have c3543 := sf_mf tw3466 (p := 71) (j := 41) rfl
                                          have c3544 := sf_ma tw3466 (p := 68) rfl
                                          have c3545 := sf_ma tw3466 (p := 69) rfl
                                          have c3546 := sf_ma tw3466 (p := 70) rfl
                                          have c3547 := sf_ma tw3466 (p := 127) rfl
                                          have c3548 := sf_ma tw3466 (p := 128) rfl
                                          have c3549 := sf_ma tw3466 (p := 129) rfl
                                          have F0 := q3467_0
                                          have F1 := q3467_1
                                          have F2 := q3467_2
                                          clear q3467_0 q3467_1 q3467_2
                                          have I_b := Iw3466
                                          refine sf_istore (L' := [(0, .inl (.ref 100000)), (1, .inl (.ref 0)), (2, .inl (.ref 71)), (3, .inl (.ref 130)), (4, .inl (.int x4))]) rfl ?_
                                          refine sf_aload rfl ?_
                                          refine sf_aload rfl ?_
                                          refine sf_iload rfl ?_
                                          refine sf_iconst sf_c1 (fun z3550 ez3550 => ?_)
                                          refine sf_iadd (by omega) (fun v3551 ev3551 => ?_)
                                          refine sf_sldk (x := x4) (k := 1) (by omega) (by omega) (by omega) ?_
                                          clear ev3551 ez3550
                                          refine sf_aload rfl ?_
                                          refine sf_iload rfl ?_
                                          refine sf_iconst sf_c2 (fun z3552 ez3552 => ?_)
                                          refine sf_iadd (by omega) (fun v3553 ev3553 => ?_)
                                          refine sf_sldk (x := x4) (k := 2) (by omega) (by omega) (by omega) ?_
                                          clear ev3553 ez3552
                                          refine sf_aload rfl ?_
                                          refine sf_iload rfl ?_
                                          refine sf_iconst sf_c3 (fun z3554 ez3554 => ?_)
                                          refine sf_iadd (by omega) (fun v3555 ev3555 => ?_)
                                          refine sf_sldk (x := x4) (k := 3) (by omega) (by omega) (by omega) ?_
                                          clear ev3555 ez3554
                                          refine sf_aload rfl ?_
                                          refine sf_iload rfl ?_
                                          refine sf_iconst sf_c4 (fun z3556 ez3556 => ?_)
                                          refine sf_iadd (by omega) (fun v3557 ev3557 => ?_)
                                          refine sf_sldk (x := x4) (k := 4) (by omega) (by omega) (by omega) ?_
                                          clear ev3557 ez3556
                                          refine sf_callv5 rfl (by omega) (by omega) ?_
                                          refine sf_rv Iw3466 rfl ?_
                                          refine sc_M_amend Iw3466 (by rw [c3478]; rw [c3479]; rw [c3469]; exact f_1) (fun v3558 w3559 Iw3559 tw3559 q3560_0 q3560_1 q3560_2 => ?_)
                                          rw [c3478] at q3560_0
                                          rw [c3479] at q3560_0
                                          rw [c3484] at q3560_0
                                          rw [c3486] at q3560_0
                                          rw [c3488] at q3560_0
                                          rw [c3490] at q3560_0
                                          rw [c3492] at q3560_0
                                          rw [c3494] at q3560_0
                                          rw [c3502] at q3560_0
                                          rw [c3504] at q3560_0
                                          rw [c3481] at q3560_0
                                          rw [c3516] at q3560_0
                                          rw [c3536] at q3560_0
                                          rw [c3537] at q3560_0
                                          rw [c3539] at q3560_0
                                          rw [c3540] at q3560_0
                                          rw [c3538] at q3560_0
                                          rw [c3527] at q3560_0
                                          rw [c3469] at q3560_0
                                          rw [c3471] at q3560_0
                                          rw [c3473] at q3560_0
                                          rw [c3477] at q3560_0
                                          rw [c3541] at q3560_1
                                          rw [c3536] at q3560_2
                                          rw [c3538] at q3560_2
                                          rw [c3526] at q3560_2
                                          have c3561 := sf_mf tw3559 (p := 1) (j := 0) rfl
                                          have c3562 := sf_mf tw3559 (p := 71) (j := 1) rfl
                                          have c3563 := sf_mf tw3559 (p := 1) (j := 5) rfl
                                          have c3564 := sf_mf tw3559 (p := 71) (j := 5) rfl
                                          have c3565 := sf_mf tw3559 (p := 13) (j := 1) rfl
                                          have c3566 := sf_mf tw3559 (p := 71) (j := 10) rfl
                                          have c3567 := sf_mf tw3559 (p := 21) (j := 1) rfl
                                          have c3568 := sf_mf tw3559 (p := 71) (j := 18) rfl
                                          have c3569 := sf_mf tw3559 (p := 35) (j := 0) rfl
                                          have c3570 := sf_mf tw3559 (p := 71) (j := 35) rfl
                                          have c3571 := sf_ma tw3559 (p := 3) rfl
                                          have c3572 := sf_ma tw3559 (p := 72) rfl
                                          have c3573 := sf_mg tw3559 (p := 10) rfl
                                          have c3574 := sf_ma tw3559 (p := 93) rfl
                                          have c3575 := sf_mL tw3559 (p := 130) rfl
                                          have c3576 := sf_ma tw3559 (p := 2) rfl
                                          have c3577 := sf_ma tw3559 (p := 6) rfl
                                          have c3578 := sf_ma tw3559 (p := 75) rfl
                                          have c3579 := sf_ma tw3559 (p := 7) rfl
                                          have c3580 := sf_ma tw3559 (p := 76) rfl
                                          have c3581 := sf_ma tw3559 (p := 8) rfl
                                          have c3582 := sf_ma tw3559 (p := 77) rfl
                                          have c3583 := sf_ma tw3559 (p := 9) rfl
                                          have c3584 := sf_ma tw3559 (p := 78) rfl
                                          have c3585 := sf_ma tw3559 (p := 14) rfl
                                          have c3586 := sf_ma tw3559 (p := 79) rfl
                                          have c3587 := sf_ma tw3559 (p := 15) rfl
                                          have c3588 := sf_ma tw3559 (p := 80) rfl
                                          have c3589 := sf_ma tw3559 (p := 16) rfl
                                          have c3590 := sf_ma tw3559 (p := 81) rfl
                                          have c3591 := sf_ma tw3559 (p := 17) rfl
                                          have c3592 := sf_ma tw3559 (p := 82) rfl
                                          have c3593 := sf_ma tw3559 (p := 18) rfl
                                          have c3594 := sf_ma tw3559 (p := 83) rfl
                                          have c3595 := sf_ma tw3559 (p := 19) rfl
                                          have c3596 := sf_ma tw3559 (p := 84) rfl
                                          have c3597 := sf_ma tw3559 (p := 20) rfl
                                          have c3598 := sf_ma tw3559 (p := 85) rfl
                                          have c3599 := sf_ma tw3559 (p := 24) rfl
                                          have c3600 := sf_ma tw3559 (p := 86) rfl
                                          have c3601 := sf_ma tw3559 (p := 25) rfl
                                          have c3602 := sf_ma tw3559 (p := 87) rfl
                                          have c3603 := sf_ma tw3559 (p := 23) rfl
                                          have c3604 := sf_ma tw3559 (p := 88) rfl
                                          have c3605 := sf_ma tw3559 (p := 26) rfl
                                          have c3606 := sf_ma tw3559 (p := 89) rfl
                                          have c3607 := sf_ma tw3559 (p := 27) rfl
                                          have c3608 := sf_ma tw3559 (p := 90) rfl
                                          have c3609 := sf_ma tw3559 (p := 36) rfl
                                          have c3610 := sf_ma tw3559 (p := 102) rfl
                                          have c3611 := sf_ma tw3559 (p := 37) rfl
                                          have c3612 := sf_ma tw3559 (p := 103) rfl
                                          have c3613 := sf_mf tw3559 (p := 60) (j := 0) rfl
                                          have c3614 := sf_ma tw3559 (p := 61) rfl
                                          have c3615 := sf_ma tw3559 (p := 62) rfl
                                          have c3616 := sf_ma tw3559 (p := 63) rfl
                                          have c3617 := sf_ma tw3559 (p := 65) rfl
                                          have c3618 := sf_ma tw3559 (p := 66) rfl
                                          have c3619 := sf_mf tw3559 (p := 71) (j := 56) rfl
                                          have c3620 := sf_ma tw3559 (p := 121) rfl
                                          have c3621 := sf_ma tw3559 (p := 123) rfl
                                          have c3622 := sf_ma tw3559 (p := 125) rfl
                                          have c3623 := sf_ma tw3559 (p := 126) rfl
                                          have c3624 := sf_ma tw3559 (p := 38) rfl
                                          have c3625 := sf_ma tw3559 (p := 40) rfl
                                          have c3626 := sf_ma tw3559 (p := 41) rfl
                                          have c3627 := sf_ma tw3559 (p := 42) rfl
                                          have c3628 := sf_ma tw3559 (p := 43) rfl
                                          have c3629 := sf_ma tw3559 (p := 44) rfl
                                          have c3630 := sf_ma tw3559 (p := 47) rfl
                                          have c3631 := sf_ma tw3559 (p := 104) rfl
                                          have c3632 := sf_ma tw3559 (p := 106) rfl
                                          have c3633 := sf_ma tw3559 (p := 113) rfl
                                          have c3634 := sf_ma tw3559 (p := 107) rfl
                                          have c3635 := sf_ma tw3559 (p := 108) rfl
                                          have c3636 := sf_ma tw3559 (p := 109) rfl
                                          have c3637 := sf_mf tw3559 (p := 71) (j := 41) rfl
                                          have c3638 := sf_ma tw3559 (p := 68) rfl
                                          have c3639 := sf_ma tw3559 (p := 69) rfl
                                          have c3640 := sf_ma tw3559 (p := 70) rfl
                                          have c3641 := sf_ma tw3559 (p := 127) rfl
                                          have c3642 := sf_ma tw3559 (p := 128) rfl
                                          have c3643 := sf_ma tw3559 (p := 129) rfl
                                          have G0 := q3560_0
                                          have G1 := q3560_1
                                          have G2 := q3560_2
                                          clear q3560_0 q3560_1 q3560_2
                                          have b12 := (sf_fb I_w (p := 71) (ci := 9) (j := 35) rfl rfl)
                                          have b40 := (sf_fb I_w (p := 71) (ci := 9) (j := 56) rfl rfl)
                                          have b24 := (sf_fb I_w (p := 71) (ci := 9) (j := 1) rfl rfl)
                                          have b4n := (sf_fb I_w (p := 71) (ci := 9) (j := 5) rfl rfl)
                                          have hda : 0 ≤ (xs (x4.toInt.toNat + 1)).toInt → (xs (x4.toInt.toNat + 1)).toInt < (sf_f w 71 35).toInt → (sf_a w 40 (xs (x4.toInt.toNat + 1)).toInt.toNat).toInt = (sf_a w 106 (xs (x4.toInt.toNat + 1)).toInt.toNat).toInt := fun h1 h2 => by rw [f_23.2.1 _ (by omega)]
                                          have hdl : 0 ≤ (xs (x4.toInt.toNat + 1)).toInt → (xs (x4.toInt.toNat + 1)).toInt < (sf_f w 71 35).toInt → (sf_a w 38 (xs (x4.toInt.toNat + 1)).toInt.toNat).toInt = (sf_a w 104 (xs (x4.toInt.toNat + 1)).toInt.toNat).toInt := fun h1 h2 => by rw [f_23.1 _ (by omega)]
                                          have hCA : 0 ≤ (xs (x4.toInt.toNat + 1)).toInt → (xs (x4.toInt.toNat + 1)).toInt < (sf_f w 71 35).toInt → ((sc_ok (sc_rc (sc_b (sf_a w 2) (sf_a w 6) (sf_a w 7) (sf_a w 8) (sf_a w 9) (sf_a w 3) (sp_ag (sf_g w 10)) (sf_f w 1 5).toInt (sf_f w 1 0).toInt) (sf_a w 2) (sf_a w 14) (sf_a w 15) (sf_a w 19) (sf_a w 20) (sf_f w 13 1).toInt (sf_a w 42) (sf_a w 43) (sf_a w 36 (xs (x4.toInt.toNat + 1)).toInt.toNat).toInt (4 * (xs (x4.toInt.toNat + 1)).toInt).toNat) (sf_a w 38 (xs (x4.toInt.toNat + 1)).toInt.toNat).toInt) ↔ (sc_ok (sc_rm (sc_b (sf_a w 72) (sf_a w 75) (sf_a w 76) (sf_a w 77) (sf_a w 78) (sf_a w 3) (sp_aa (sf_a w 93)) (sf_f w 71 5).toInt (sf_f w 71 1).toInt) (sf_a w 72) (sf_a w 79) (sf_a w 80) (sf_a w 84) (sf_a w 85) (sf_f w 71 10).toInt (sf_a w 107) (sf_a w 108) (sf_a w 102 (xs (x4.toInt.toNat + 1)).toInt.toNat).toInt (4 * (xs (x4.toInt.toNat + 1)).toInt).toNat) (sf_a w 104 (xs (x4.toInt.toNat + 1)).toInt.toNat).toInt)) := fun h1 h2 => sc_okE (hdl h1 h2) (fun k hk => by
                                            have h4 := (sf_arr I_w (p := 38) rfl).2.1 (xs (x4.toInt.toNat + 1)).toInt.toNat (by omega)
                                            have hr48 : (4 * (xs (x4.toInt.toNat + 1)).toInt).toNat + k < 48 := by omega
                                            have hgd := (sf_arr I_w (p := 42) rfl).2.1 ((4 * (xs (x4.toInt.toNat + 1)).toInt).toNat + k) hr48
                                            have hge := f_23.2.2.1 ((4 * (xs (x4.toInt.toNat + 1)).toInt).toNat + k) (by omega)
                                            refine sc_rE f_1 f_3 f_8 f_9 f_13 f_14 (by omega) (sc_bE f_1 f_3 f_4 f_5 f_6 f_7 (fun i hi => (sf_arr I_w (p := 77) rfl).2.1 i (by omega)) (fun j hj => congrArg Int32.toInt (f_2 _ j (by omega) hj)) (by omega) (by omega) (by rw [hge])) (sc_br (by omega)).2 (f_23.2.2.2.1 _ (by omega)) (by rw [f_20 _ (by omega)]))
                                          have hWh : 0 ≤ (xs (x4.toInt.toNat + 1)).toInt → (xs (x4.toInt.toNat + 1)).toInt < (sf_f w 71 35).toInt → (((sf_a w 40 (xs (x4.toInt.toNat + 1)).toInt.toNat).toInt = 1 ∧ ∀ k : Nat, (k : Int) < (sf_a w 38 (xs (x4.toInt.toNat + 1)).toInt.toNat).toInt → (sf_a w 63 (sl_ix (sf_a w 41 (xs (x4.toInt.toNat + 1)).toInt.toNat).toInt k)).toInt ≤ 0) ↔ ((sf_a w 106 (xs (x4.toInt.toNat + 1)).toInt.toNat).toInt = 1 ∧ ∀ j : Nat, (j : Int) < (sf_a w 104 (xs (x4.toInt.toNat + 1)).toInt.toNat).toInt → (sf_a w 123 (sl_iy (sf_a w 113 ) (4 * (xs (x4.toInt.toNat + 1)).toInt).toNat j)).toInt = 0)) := fun h1 h2 => sl_WhE f_22 f_23 f_24 (fun x hx => (sf_arr I_w (p := 38) rfl).2.1 x hx) (fun i hi => (sf_arr I_w (p := 41) rfl).2.1 i hi) (fun i hi => (sf_arr I_w (p := 113) rfl).2.1 i hi) h1 (by omega)
                                          have hrc := sl_cmE F0 G0 (by constructor <;> (intro h9; have h8 := hdl h9.1 (by omega); omega)) (fun h9 => hWh h9.1 (by omega)) (fun h9 => hCA h9.1 (by omega))
                                          have hA := sl_AMDz (dz := (xs (x4.toInt.toNat + 1)).toInt) f_22 f_23 f_24 (fun x hx => (sf_arr I_w (p := 38) rfl).2.1 x hx) (fun i hi => (sf_arr I_b (p := 44) rfl).2.1 i hi) hrc (fun h9 => by obtain ⟨k1, k2, k3⟩ := sl_cm0 G0 h9; exact ⟨k1.1, by omega, k2.1, k2.2⟩) F1 G1 rfl rfl rfl F2 G2
                                          clear F0 G0 F1 G1 F2 G2 hCA hWh
                                          obtain ⟨hRL, hRD⟩ := hA
                                          refine sf_lstore (L' := [(5, .inl (.int v3465)), (0, .inl (.ref 100000)), (1, .inl (.ref 0)), (2, .inl (.ref 71)), (3, .inl (.ref 130)), (4, .inl (.int x4))]) rfl ?_
                                          show kt_W_law_1421 N xs K _ _ _ _ _
                                          refine sf_iinc (L' := [(6, .inl (.long v3558)), (5, .inl (.int v3465)), (0, .inl (.ref 100000)), (1, .inl (.ref 0)), (2, .inl (.ref 71)), (3, .inl (.ref 130))]) (x := x4) sf_c8 rfl rfl (by omega) (fun v3644 ev3644 => ?_)
                                          refine sf_can (L' := [(0, .inl (.ref 100000)), (1, .inl (.ref 0)), (2, .inl (.ref 71)), (3, .inl (.ref 130)), (4, .inl (.int v3644))]) rfl ?_
                                          exact ih _ _ _ _ Iw3559 (by omega) (by omega) (by omega) (by omega) (by rw [c3561, c3468]; rw [c3562, c3469]; rw [c3563, c3470]; rw [c3564, c3471]; rw [c3565, c3472]; rw [c3566, c3473]; rw [c3567, c3474]; rw [c3568, c3475]; rw [c3569, c3476]; rw [c3570, c3477]; omega) (by rw [c3571, c3478]; rw [c3572, c3479]; rw [c3562, c3469]; first | exact f_1 | exact hJ) (by rw [c3573, c3480]; rw [c3574, c3481]; first | exact f_2 | exact hK2) (by rw [c3576, c3482]; rw [c3572, c3479]; rw [c3562, c3469]; first | exact f_3 | exact hQ2) (by rw [c3577, c3483]; rw [c3578, c3484]; rw [c3564, c3471]; first | exact f_4 | exact hQ6) (by rw [c3579, c3485]; rw [c3580, c3486]; rw [c3564, c3471]; first | exact f_5 | exact hQ7) (by rw [c3581, c3487]; rw [c3582, c3488]; rw [c3564, c3471]; first | exact f_6 | exact hQ8) (by rw [c3583, c3489]; rw [c3584, c3490]; rw [c3564, c3471]; first | exact f_7 | exact hQ9) (by rw [c3585, c3491]; rw [c3586, c3492]; rw [c3566, c3473]; first | exact f_8 | exact hQ14) (by rw [c3587, c3493]; rw [c3588, c3494]; rw [c3566, c3473]; first | exact f_9 | exact hQ15) (by rw [c3589, c3495]; rw [c3590, c3496]; rw [c3566, c3473]; first | exact f_10 | exact hQ16) (by rw [c3591, c3497]; rw [c3592, c3498]; rw [c3566, c3473]; first | exact f_11 | exact hQ17) (by rw [c3593, c3499]; rw [c3594, c3500]; rw [c3566, c3473]; first | exact f_12 | exact hQ18) (by rw [c3595, c3501]; rw [c3596, c3502]; rw [c3566, c3473]; first | exact f_13 | exact hQ19) (by rw [c3597, c3503]; rw [c3598, c3504]; rw [c3566, c3473]; first | exact f_14 | exact hQ20) (by rw [c3599, c3505]; rw [c3600, c3506]; rw [c3568, c3475]; first | exact f_15 | exact hQ24) (by rw [c3601, c3507]; rw [c3602, c3508]; rw [c3568, c3475]; first | exact f_16 | exact hQ25) (by rw [c3603, c3509]; rw [c3604, c3510]; rw [c3568, c3475]; first | exact f_17 | exact hQ23) (by rw [c3605, c3511]; rw [c3606, c3512]; rw [c3568, c3475]; first | exact f_18 | exact hQ26) (by rw [c3607, c3513]; rw [c3608, c3514]; rw [c3568, c3475]; first | exact f_19 | exact hQ27) (by rw [c3609, c3515]; rw [c3610, c3516]; rw [c3570, c3477]; first | exact f_20 | exact hQ36) (by rw [c3611, c3517]; rw [c3612, c3518]; rw [c3570, c3477]; first | exact f_21 | exact hQ37) (by rw [c3613, c3519]; rw [c3619, c3524]; rw [c3614, c3520]; rw [c3615]; rw [c3616, c3521]; rw [c3617, c3522]; rw [c3618, c3523]; rw [c3620, c3525]; rw [c3621, c3527]; rw [c3622, c3528]; rw [c3623, c3529]; exact hRL) (by rw [c3624, c3530]; rw [c3631, c3536]; rw [c3625, c3531]; rw [c3632, c3537]; rw [c3627, c3533]; rw [c3634, c3539]; rw [c3628, c3534]; rw [c3635, c3540]; rw [c3630, c3535]; rw [c3636, c3542]; rw [c3629]; exact hRD) (by rw [c3625, c3531]; rw [c3624, c3530]; rw [c3626, c3532]; rw [c3633, c3538]; exact f_24) (by rw [c3610, c3516]; rw [c3612, c3518]; rw [c3632, c3537]; rw [c3570, c3477]; rw [c3637, c3543]; exact f_25) (by rw [c3632, c3537]; rw [c3570, c3477]; exact f_26) (by rw [c3638, c3544]; rw [c3641, c3547]; rw [c3639, c3545]; rw [c3642, c3548]; rw [c3640, c3546]; rw [c3643, c3549]; exact f_27) (by omega)
                                        · clear h3456
                                          refine sf_sw1 sf_c18 (fun h3645 => ?_) (fun h3645 => ?_)
                                          · refine sf_aload rfl ?_
                                            refine sf_aload rfl ?_
                                            refine sf_iload rfl ?_
                                            refine sf_iconst sf_c1 (fun z3646 ez3646 => ?_)
                                            refine sf_iadd (by omega) (fun v3647 ev3647 => ?_)
                                            refine sf_sldk (x := x4) (k := 1) (by omega) (by omega) (by omega) ?_
                                            clear ev3647 ez3646
                                            refine sf_aload rfl ?_
                                            refine sf_iload rfl ?_
                                            refine sf_iconst sf_c2 (fun z3648 ez3648 => ?_)
                                            refine sf_iadd (by omega) (fun v3649 ev3649 => ?_)
                                            refine sf_sldk (x := x4) (k := 2) (by omega) (by omega) (by omega) ?_
                                            clear ev3649 ez3648
                                            refine sf_aload rfl ?_
                                            refine sf_callv4 rfl (by omega) (by omega) ?_
                                            refine sc_W_release_0_130 I_w (by exact sl_Bq f_22.2.2.1 f_22.2.2.2.1 f_22.2.2.2.2.2.2.1) (fun v3650 w3651 Iw3651 tw3651 lv3650 uv3650 q3652_0 q3652_1 q3652_2 => ?_)
                                            have c3653 := sf_mf tw3651 (p := 1) (j := 0) rfl
                                            have c3654 := sf_mf tw3651 (p := 71) (j := 1) rfl
                                            have c3655 := sf_mf tw3651 (p := 1) (j := 5) rfl
                                            have c3656 := sf_mf tw3651 (p := 71) (j := 5) rfl
                                            have c3657 := sf_mf tw3651 (p := 13) (j := 1) rfl
                                            have c3658 := sf_mf tw3651 (p := 71) (j := 10) rfl
                                            have c3659 := sf_mf tw3651 (p := 21) (j := 1) rfl
                                            have c3660 := sf_mf tw3651 (p := 71) (j := 18) rfl
                                            have c3661 := sf_mf tw3651 (p := 35) (j := 0) rfl
                                            have c3662 := sf_mf tw3651 (p := 71) (j := 35) rfl
                                            have c3663 := sf_ma tw3651 (p := 3) rfl
                                            have c3664 := sf_ma tw3651 (p := 72) rfl
                                            have c3665 := sf_mg tw3651 (p := 10) rfl
                                            have c3666 := sf_ma tw3651 (p := 93) rfl
                                            have c3667 := sf_ma tw3651 (p := 2) rfl
                                            have c3668 := sf_ma tw3651 (p := 6) rfl
                                            have c3669 := sf_ma tw3651 (p := 75) rfl
                                            have c3670 := sf_ma tw3651 (p := 7) rfl
                                            have c3671 := sf_ma tw3651 (p := 76) rfl
                                            have c3672 := sf_ma tw3651 (p := 8) rfl
                                            have c3673 := sf_ma tw3651 (p := 77) rfl
                                            have c3674 := sf_ma tw3651 (p := 9) rfl
                                            have c3675 := sf_ma tw3651 (p := 78) rfl
                                            have c3676 := sf_ma tw3651 (p := 14) rfl
                                            have c3677 := sf_ma tw3651 (p := 79) rfl
                                            have c3678 := sf_ma tw3651 (p := 15) rfl
                                            have c3679 := sf_ma tw3651 (p := 80) rfl
                                            have c3680 := sf_ma tw3651 (p := 16) rfl
                                            have c3681 := sf_ma tw3651 (p := 81) rfl
                                            have c3682 := sf_ma tw3651 (p := 17) rfl
                                            have c3683 := sf_ma tw3651 (p := 82) rfl
                                            have c3684 := sf_ma tw3651 (p := 18) rfl
                                            have c3685 := sf_ma tw3651 (p := 83) rfl
                                            have c3686 := sf_ma tw3651 (p := 19) rfl
                                            have c3687 := sf_ma tw3651 (p := 84) rfl
                                            have c3688 := sf_ma tw3651 (p := 20) rfl
                                            have c3689 := sf_ma tw3651 (p := 85) rfl
                                            have c3690 := sf_ma tw3651 (p := 24) rfl
                                            have c3691 := sf_ma tw3651 (p := 86) rfl
                                            have c3692 := sf_ma tw3651 (p := 25) rfl
                                            have c3693 := sf_ma tw3651 (p := 87) rfl
                                            have c3694 := sf_ma tw3651 (p := 23) rfl
                                            have c3695 := sf_ma tw3651 (p := 88) rfl
                                            have c3696 := sf_ma tw3651 (p := 26) rfl
                                            have c3697 := sf_ma tw3651 (p := 89) rfl
                                            have c3698 := sf_ma tw3651 (p := 27) rfl
                                            have c3699 := sf_ma tw3651 (p := 90) rfl
                                            have c3700 := sf_ma tw3651 (p := 36) rfl
                                            have c3701 := sf_ma tw3651 (p := 102) rfl
                                            have c3702 := sf_ma tw3651 (p := 37) rfl
                                            have c3703 := sf_ma tw3651 (p := 103) rfl
                                            have c3704 := sf_mf tw3651 (p := 60) (j := 0) rfl
                                            have c3705 := sf_ma tw3651 (p := 61) rfl
                                            have c3706 := sf_ma tw3651 (p := 62) rfl
                                            have c3707 := sf_ma tw3651 (p := 65) rfl
                                            have c3708 := sf_ma tw3651 (p := 66) rfl
                                            have c3709 := sf_mf tw3651 (p := 71) (j := 56) rfl
                                            have c3710 := sf_ma tw3651 (p := 121) rfl
                                            have c3711 := sf_ma tw3651 (p := 122) rfl
                                            have c3712 := sf_ma tw3651 (p := 123) rfl
                                            have c3713 := sf_ma tw3651 (p := 125) rfl
                                            have c3714 := sf_ma tw3651 (p := 126) rfl
                                            have c3715 := sf_ma tw3651 (p := 38) rfl
                                            have c3716 := sf_ma tw3651 (p := 40) rfl
                                            have c3717 := sf_ma tw3651 (p := 41) rfl
                                            have c3718 := sf_ma tw3651 (p := 42) rfl
                                            have c3719 := sf_ma tw3651 (p := 43) rfl
                                            have c3720 := sf_ma tw3651 (p := 44) rfl
                                            have c3721 := sf_ma tw3651 (p := 47) rfl
                                            have c3722 := sf_ma tw3651 (p := 104) rfl
                                            have c3723 := sf_ma tw3651 (p := 106) rfl
                                            have c3724 := sf_ma tw3651 (p := 113) rfl
                                            have c3725 := sf_ma tw3651 (p := 107) rfl
                                            have c3726 := sf_ma tw3651 (p := 108) rfl
                                            have c3727 := sf_ma tw3651 (p := 110) rfl
                                            have c3728 := sf_ma tw3651 (p := 109) rfl
                                            have c3729 := sf_mf tw3651 (p := 71) (j := 41) rfl
                                            have c3730 := sf_ma tw3651 (p := 69) rfl
                                            have c3731 := sf_ma tw3651 (p := 70) rfl
                                            have c3732 := sf_ma tw3651 (p := 127) rfl
                                            have c3733 := sf_ma tw3651 (p := 128) rfl
                                            have c3734 := sf_ma tw3651 (p := 129) rfl
                                            have F0 := q3652_0
                                            have F1 := q3652_1
                                            have F2 := q3652_2
                                            clear q3652_0 q3652_1 q3652_2
                                            refine sf_istore (L' := [(0, .inl (.ref 100000)), (1, .inl (.ref 0)), (2, .inl (.ref 71)), (3, .inl (.ref 130)), (4, .inl (.int x4))]) rfl ?_
                                            refine sf_aload rfl ?_
                                            refine sf_aload rfl ?_
                                            refine sf_iload rfl ?_
                                            refine sf_iconst sf_c1 (fun z3735 ez3735 => ?_)
                                            refine sf_iadd (by omega) (fun v3736 ev3736 => ?_)
                                            refine sf_sldk (x := x4) (k := 1) (by omega) (by omega) (by omega) ?_
                                            clear ev3736 ez3735
                                            refine sf_aload rfl ?_
                                            refine sf_iload rfl ?_
                                            refine sf_iconst sf_c2 (fun z3737 ez3737 => ?_)
                                            refine sf_iadd (by omega) (fun v3738 ev3738 => ?_)
                                            refine sf_sldk (x := x4) (k := 2) (by omega) (by omega) (by omega) ?_
                                            clear ev3738 ez3737
                                            refine sf_callv3 rfl (by omega) (by omega) ?_
                                            refine sf_rv Iw3651 rfl ?_
                                            refine sc_M_release Iw3651 (by rw [c3711]; rw [c3712]; exact f_22.2.2.2.2.2.2.1) (fun v3739 w3740 Iw3740 tw3740 q3741_0 q3741_1 q3741_2 => ?_)
                                            rw [c3710] at q3741_0
                                            rw [c3711] at q3741_0
                                            rw [c3712] at q3741_0
                                            rw [c3713] at q3741_0
                                            rw [c3709] at q3741_0
                                            rw [c3710] at q3741_1
                                            rw [c3711] at q3741_1
                                            rw [c3712] at q3741_1
                                            rw [c3713] at q3741_1
                                            rw [c3709] at q3741_1
                                            rw [c3732] at q3741_2
                                            have c3742 := sf_mf tw3740 (p := 1) (j := 0) rfl
                                            have c3743 := sf_mf tw3740 (p := 71) (j := 1) rfl
                                            have c3744 := sf_mf tw3740 (p := 1) (j := 5) rfl
                                            have c3745 := sf_mf tw3740 (p := 71) (j := 5) rfl
                                            have c3746 := sf_mf tw3740 (p := 13) (j := 1) rfl
                                            have c3747 := sf_mf tw3740 (p := 71) (j := 10) rfl
                                            have c3748 := sf_mf tw3740 (p := 21) (j := 1) rfl
                                            have c3749 := sf_mf tw3740 (p := 71) (j := 18) rfl
                                            have c3750 := sf_mf tw3740 (p := 35) (j := 0) rfl
                                            have c3751 := sf_mf tw3740 (p := 71) (j := 35) rfl
                                            have c3752 := sf_ma tw3740 (p := 3) rfl
                                            have c3753 := sf_ma tw3740 (p := 72) rfl
                                            have c3754 := sf_mg tw3740 (p := 10) rfl
                                            have c3755 := sf_ma tw3740 (p := 93) rfl
                                            have c3756 := sf_mL tw3740 (p := 130) rfl
                                            have c3757 := sf_ma tw3740 (p := 2) rfl
                                            have c3758 := sf_ma tw3740 (p := 6) rfl
                                            have c3759 := sf_ma tw3740 (p := 75) rfl
                                            have c3760 := sf_ma tw3740 (p := 7) rfl
                                            have c3761 := sf_ma tw3740 (p := 76) rfl
                                            have c3762 := sf_ma tw3740 (p := 8) rfl
                                            have c3763 := sf_ma tw3740 (p := 77) rfl
                                            have c3764 := sf_ma tw3740 (p := 9) rfl
                                            have c3765 := sf_ma tw3740 (p := 78) rfl
                                            have c3766 := sf_ma tw3740 (p := 14) rfl
                                            have c3767 := sf_ma tw3740 (p := 79) rfl
                                            have c3768 := sf_ma tw3740 (p := 15) rfl
                                            have c3769 := sf_ma tw3740 (p := 80) rfl
                                            have c3770 := sf_ma tw3740 (p := 16) rfl
                                            have c3771 := sf_ma tw3740 (p := 81) rfl
                                            have c3772 := sf_ma tw3740 (p := 17) rfl
                                            have c3773 := sf_ma tw3740 (p := 82) rfl
                                            have c3774 := sf_ma tw3740 (p := 18) rfl
                                            have c3775 := sf_ma tw3740 (p := 83) rfl
                                            have c3776 := sf_ma tw3740 (p := 19) rfl
                                            have c3777 := sf_ma tw3740 (p := 84) rfl
                                            have c3778 := sf_ma tw3740 (p := 20) rfl
                                            have c3779 := sf_ma tw3740 (p := 85) rfl
                                            have c3780 := sf_ma tw3740 (p := 24) rfl
                                            have c3781 := sf_ma tw3740 (p := 86) rfl
                                            have c3782 := sf_ma tw3740 (p := 25) rfl
                                            have c3783 := sf_ma tw3740 (p := 87) rfl
                                            have c3784 := sf_ma tw3740 (p := 23) rfl
                                            have c3785 := sf_ma tw3740 (p := 88) rfl
                                            have c3786 := sf_ma tw3740 (p := 26) rfl
                                            have c3787 := sf_ma tw3740 (p := 89) rfl
                                            have c3788 := sf_ma tw3740 (p := 27) rfl
                                            have c3789 := sf_ma tw3740 (p := 90) rfl
                                            have c3790 := sf_ma tw3740 (p := 36) rfl
                                            have c3791 := sf_ma tw3740 (p := 102) rfl
                                            have c3792 := sf_ma tw3740 (p := 37) rfl
                                            have c3793 := sf_ma tw3740 (p := 103) rfl
                                            have c3794 := sf_mf tw3740 (p := 60) (j := 0) rfl
                                            have c3795 := sf_ma tw3740 (p := 61) rfl
                                            have c3796 := sf_ma tw3740 (p := 62) rfl
                                            have c3797 := sf_ma tw3740 (p := 63) rfl
                                            have c3798 := sf_ma tw3740 (p := 65) rfl
                                            have c3799 := sf_ma tw3740 (p := 66) rfl
                                            have c3800 := sf_mf tw3740 (p := 71) (j := 56) rfl
                                            have c3801 := sf_ma tw3740 (p := 121) rfl
                                            have c3802 := sf_ma tw3740 (p := 122) rfl
                                            have c3803 := sf_ma tw3740 (p := 125) rfl
                                            have c3804 := sf_ma tw3740 (p := 126) rfl
                                            have c3805 := sf_ma tw3740 (p := 38) rfl
                                            have c3806 := sf_ma tw3740 (p := 40) rfl
                                            have c3807 := sf_ma tw3740 (p := 41) rfl
                                            have c3808 := sf_ma tw3740 (p := 42) rfl
                                            have c3809 := sf_ma tw3740 (p := 43) rfl
                                            have c3810 := sf_ma tw3740 (p := 44) rfl
                                            have c3811 := sf_ma tw3740 (p := 47) rfl
                                            have c3812 := sf_ma tw3740 (p := 104) rfl
                                            have c3813 := sf_ma tw3740 (p := 106) rfl
                                            have c3814 := sf_ma tw3740 (p := 113) rfl
                                            have c3815 := sf_ma tw3740 (p := 107) rfl
                                            have c3816 := sf_ma tw3740 (p := 108) rfl
                                            have c3817 := sf_ma tw3740 (p := 110) rfl
                                            have c3818 := sf_ma tw3740 (p := 109) rfl
                                            have c3819 := sf_mf tw3740 (p := 71) (j := 41) rfl
                                            have c3820 := sf_ma tw3740 (p := 68) rfl
                                            have c3821 := sf_ma tw3740 (p := 69) rfl
                                            have c3822 := sf_ma tw3740 (p := 70) rfl
                                            have c3823 := sf_ma tw3740 (p := 128) rfl
                                            have c3824 := sf_ma tw3740 (p := 129) rfl
                                            have G0 := q3741_0
                                            have G1 := q3741_1
                                            have G2 := q3741_2
                                            clear q3741_0 q3741_1 q3741_2
                                            have b40 := (sf_fb I_w (p := 71) (ci := 9) (j := 56) rfl rfl)
                                            have hSS := sl_SE f_22 (x := (xs (x4.toInt.toNat + 1)).toInt) (x' := (xs (x4.toInt.toNat + 1)).toInt) (y := 1) (y' := 1) b40.2 rfl rfl
                                            have hrc : v3650.toInt = (sf_f w3740 71 0).toInt := by omega
                                            have hRL := sl_RLT f_22 F1 G1 hrc rfl rfl (fun h9 => by omega)
                                            have hRG : sf_Q 16 (sf_a w3651 68) (sf_a w3740 127) ∧ sf_Q 16 (sf_a w 69) (sf_a w 128) ∧ sf_Q 16 (sf_a w 70) (sf_a w 129) := ⟨sl_QV f_27.1 F2 G2 hrc rfl rfl (fun h9 => by omega), f_27.2⟩
                                            clear F1 F2 G1 G2
                                            refine sf_lstore (L' := [(5, .inl (.int v3650)), (0, .inl (.ref 100000)), (1, .inl (.ref 0)), (2, .inl (.ref 71)), (3, .inl (.ref 130)), (4, .inl (.int x4))]) rfl ?_
                                            show kt_W_law_1421 N xs K _ _ _ _ _
                                            refine sf_iinc (L' := [(6, .inl (.long v3739)), (5, .inl (.int v3650)), (0, .inl (.ref 100000)), (1, .inl (.ref 0)), (2, .inl (.ref 71)), (3, .inl (.ref 130))]) (x := x4) sf_c8 rfl rfl (by omega) (fun v3825 ev3825 => ?_)
                                            refine sf_can (L' := [(0, .inl (.ref 100000)), (1, .inl (.ref 0)), (2, .inl (.ref 71)), (3, .inl (.ref 130)), (4, .inl (.int v3825))]) rfl ?_
                                            exact ih _ _ _ _ Iw3740 (by omega) (by omega) (by omega) (by omega) (by rw [c3742, c3653]; rw [c3743, c3654]; rw [c3744, c3655]; rw [c3745, c3656]; rw [c3746, c3657]; rw [c3747, c3658]; rw [c3748, c3659]; rw [c3749, c3660]; rw [c3750, c3661]; rw [c3751, c3662]; omega) (by rw [c3752, c3663]; rw [c3753, c3664]; rw [c3743, c3654]; first | exact f_1 | exact hJ) (by rw [c3754, c3665]; rw [c3755, c3666]; first | exact f_2 | exact hK2) (by rw [c3757, c3667]; rw [c3753, c3664]; rw [c3743, c3654]; first | exact f_3 | exact hQ2) (by rw [c3758, c3668]; rw [c3759, c3669]; rw [c3745, c3656]; first | exact f_4 | exact hQ6) (by rw [c3760, c3670]; rw [c3761, c3671]; rw [c3745, c3656]; first | exact f_5 | exact hQ7) (by rw [c3762, c3672]; rw [c3763, c3673]; rw [c3745, c3656]; first | exact f_6 | exact hQ8) (by rw [c3764, c3674]; rw [c3765, c3675]; rw [c3745, c3656]; first | exact f_7 | exact hQ9) (by rw [c3766, c3676]; rw [c3767, c3677]; rw [c3747, c3658]; first | exact f_8 | exact hQ14) (by rw [c3768, c3678]; rw [c3769, c3679]; rw [c3747, c3658]; first | exact f_9 | exact hQ15) (by rw [c3770, c3680]; rw [c3771, c3681]; rw [c3747, c3658]; first | exact f_10 | exact hQ16) (by rw [c3772, c3682]; rw [c3773, c3683]; rw [c3747, c3658]; first | exact f_11 | exact hQ17) (by rw [c3774, c3684]; rw [c3775, c3685]; rw [c3747, c3658]; first | exact f_12 | exact hQ18) (by rw [c3776, c3686]; rw [c3777, c3687]; rw [c3747, c3658]; first | exact f_13 | exact hQ19) (by rw [c3778, c3688]; rw [c3779, c3689]; rw [c3747, c3658]; first | exact f_14 | exact hQ20) (by rw [c3780, c3690]; rw [c3781, c3691]; rw [c3749, c3660]; first | exact f_15 | exact hQ24) (by rw [c3782, c3692]; rw [c3783, c3693]; rw [c3749, c3660]; first | exact f_16 | exact hQ25) (by rw [c3784, c3694]; rw [c3785, c3695]; rw [c3749, c3660]; first | exact f_17 | exact hQ23) (by rw [c3786, c3696]; rw [c3787, c3697]; rw [c3749, c3660]; first | exact f_18 | exact hQ26) (by rw [c3788, c3698]; rw [c3789, c3699]; rw [c3749, c3660]; first | exact f_19 | exact hQ27) (by rw [c3790, c3700]; rw [c3791, c3701]; rw [c3751, c3662]; first | exact f_20 | exact hQ36) (by rw [c3792, c3702]; rw [c3793, c3703]; rw [c3751, c3662]; first | exact f_21 | exact hQ37) (by rw [c3794, c3704]; rw [c3800, c3709]; rw [c3795, c3705]; rw [c3796, c3706]; rw [c3797]; rw [c3798, c3707]; rw [c3799, c3708]; rw [c3801, c3710]; rw [c3802, c3711]; rw [c3803, c3713]; rw [c3804, c3714]; exact hRL) (by rw [c3805, c3715]; rw [c3812, c3722]; rw [c3806, c3716]; rw [c3813, c3723]; rw [c3808, c3718]; rw [c3815, c3725]; rw [c3809, c3719]; rw [c3816, c3726]; rw [c3811, c3721]; rw [c3818, c3728]; rw [c3810, c3720]; rw [c3817, c3727]; exact f_23) (by rw [c3806, c3716]; rw [c3805, c3715]; rw [c3807, c3717]; rw [c3814, c3724]; exact f_24) (by rw [c3791, c3701]; rw [c3793, c3703]; rw [c3813, c3723]; rw [c3751, c3662]; rw [c3819, c3729]; exact f_25) (by rw [c3813, c3723]; rw [c3751, c3662]; exact f_26) (by rw [c3820]; rw [c3821, c3730]; rw [c3823, c3733]; rw [c3822, c3731]; rw [c3824, c3734]; exact hRG) (by omega)
                                          · clear h3645
                                            refine sf_sw1 sf_c19 (fun h3826 => ?_) (fun h3826 => ?_)
                                            · refine sf_aload rfl ?_
                                              refine sf_aload rfl ?_
                                              refine sf_iload rfl ?_
                                              refine sf_iconst sf_c1 (fun z3827 ez3827 => ?_)
                                              refine sf_iadd (by omega) (fun v3828 ev3828 => ?_)
                                              refine sf_sldk (x := x4) (k := 1) (by omega) (by omega) (by omega) ?_
                                              clear ev3828 ez3827
                                              refine sf_aload rfl ?_
                                              refine sf_iload rfl ?_
                                              refine sf_iconst sf_c2 (fun z3829 ez3829 => ?_)
                                              refine sf_iadd (by omega) (fun v3830 ev3830 => ?_)
                                              refine sf_sldk (x := x4) (k := 2) (by omega) (by omega) (by omega) ?_
                                              clear ev3830 ez3829
                                              refine sf_aload rfl ?_
                                              refine sf_callv4 rfl (by omega) (by omega) ?_
                                              refine sc_W_export_0_130 I_w (by exact sl_Bq f_22.2.2.1 f_22.2.2.2.1 f_22.2.2.2.2.2.2.1) (fun v3831 w3832 Iw3832 tw3832 lv3831 uv3831 q3833_0 q3833_1 => ?_)
                                              have c3834 := sf_mf tw3832 (p := 1) (j := 0) rfl
                                              have c3835 := sf_mf tw3832 (p := 71) (j := 1) rfl
                                              have c3836 := sf_mf tw3832 (p := 1) (j := 5) rfl
                                              have c3837 := sf_mf tw3832 (p := 71) (j := 5) rfl
                                              have c3838 := sf_mf tw3832 (p := 13) (j := 1) rfl
                                              have c3839 := sf_mf tw3832 (p := 71) (j := 10) rfl
                                              have c3840 := sf_mf tw3832 (p := 21) (j := 1) rfl
                                              have c3841 := sf_mf tw3832 (p := 71) (j := 18) rfl
                                              have c3842 := sf_mf tw3832 (p := 35) (j := 0) rfl
                                              have c3843 := sf_mf tw3832 (p := 71) (j := 35) rfl
                                              have c3844 := sf_ma tw3832 (p := 3) rfl
                                              have c3845 := sf_ma tw3832 (p := 72) rfl
                                              have c3846 := sf_mg tw3832 (p := 10) rfl
                                              have c3847 := sf_ma tw3832 (p := 93) rfl
                                              have c3848 := sf_ma tw3832 (p := 2) rfl
                                              have c3849 := sf_ma tw3832 (p := 6) rfl
                                              have c3850 := sf_ma tw3832 (p := 75) rfl
                                              have c3851 := sf_ma tw3832 (p := 7) rfl
                                              have c3852 := sf_ma tw3832 (p := 76) rfl
                                              have c3853 := sf_ma tw3832 (p := 8) rfl
                                              have c3854 := sf_ma tw3832 (p := 77) rfl
                                              have c3855 := sf_ma tw3832 (p := 9) rfl
                                              have c3856 := sf_ma tw3832 (p := 78) rfl
                                              have c3857 := sf_ma tw3832 (p := 14) rfl
                                              have c3858 := sf_ma tw3832 (p := 79) rfl
                                              have c3859 := sf_ma tw3832 (p := 15) rfl
                                              have c3860 := sf_ma tw3832 (p := 80) rfl
                                              have c3861 := sf_ma tw3832 (p := 16) rfl
                                              have c3862 := sf_ma tw3832 (p := 81) rfl
                                              have c3863 := sf_ma tw3832 (p := 17) rfl
                                              have c3864 := sf_ma tw3832 (p := 82) rfl
                                              have c3865 := sf_ma tw3832 (p := 18) rfl
                                              have c3866 := sf_ma tw3832 (p := 83) rfl
                                              have c3867 := sf_ma tw3832 (p := 19) rfl
                                              have c3868 := sf_ma tw3832 (p := 84) rfl
                                              have c3869 := sf_ma tw3832 (p := 20) rfl
                                              have c3870 := sf_ma tw3832 (p := 85) rfl
                                              have c3871 := sf_ma tw3832 (p := 24) rfl
                                              have c3872 := sf_ma tw3832 (p := 86) rfl
                                              have c3873 := sf_ma tw3832 (p := 25) rfl
                                              have c3874 := sf_ma tw3832 (p := 87) rfl
                                              have c3875 := sf_ma tw3832 (p := 23) rfl
                                              have c3876 := sf_ma tw3832 (p := 88) rfl
                                              have c3877 := sf_ma tw3832 (p := 26) rfl
                                              have c3878 := sf_ma tw3832 (p := 89) rfl
                                              have c3879 := sf_ma tw3832 (p := 27) rfl
                                              have c3880 := sf_ma tw3832 (p := 90) rfl
                                              have c3881 := sf_ma tw3832 (p := 36) rfl
                                              have c3882 := sf_ma tw3832 (p := 102) rfl
                                              have c3883 := sf_ma tw3832 (p := 37) rfl
                                              have c3884 := sf_ma tw3832 (p := 103) rfl
                                              have c3885 := sf_mf tw3832 (p := 60) (j := 0) rfl
                                              have c3886 := sf_ma tw3832 (p := 61) rfl
                                              have c3887 := sf_ma tw3832 (p := 62) rfl
                                              have c3888 := sf_ma tw3832 (p := 65) rfl
                                              have c3889 := sf_ma tw3832 (p := 66) rfl
                                              have c3890 := sf_mf tw3832 (p := 71) (j := 56) rfl
                                              have c3891 := sf_ma tw3832 (p := 121) rfl
                                              have c3892 := sf_ma tw3832 (p := 122) rfl
                                              have c3893 := sf_ma tw3832 (p := 123) rfl
                                              have c3894 := sf_ma tw3832 (p := 125) rfl
                                              have c3895 := sf_ma tw3832 (p := 126) rfl
                                              have c3896 := sf_ma tw3832 (p := 38) rfl
                                              have c3897 := sf_ma tw3832 (p := 40) rfl
                                              have c3898 := sf_ma tw3832 (p := 41) rfl
                                              have c3899 := sf_ma tw3832 (p := 42) rfl
                                              have c3900 := sf_ma tw3832 (p := 43) rfl
                                              have c3901 := sf_ma tw3832 (p := 44) rfl
                                              have c3902 := sf_ma tw3832 (p := 47) rfl
                                              have c3903 := sf_ma tw3832 (p := 104) rfl
                                              have c3904 := sf_ma tw3832 (p := 106) rfl
                                              have c3905 := sf_ma tw3832 (p := 113) rfl
                                              have c3906 := sf_ma tw3832 (p := 107) rfl
                                              have c3907 := sf_ma tw3832 (p := 108) rfl
                                              have c3908 := sf_ma tw3832 (p := 110) rfl
                                              have c3909 := sf_ma tw3832 (p := 109) rfl
                                              have c3910 := sf_mf tw3832 (p := 71) (j := 41) rfl
                                              have c3911 := sf_ma tw3832 (p := 68) rfl
                                              have c3912 := sf_ma tw3832 (p := 69) rfl
                                              have c3913 := sf_ma tw3832 (p := 70) rfl
                                              have c3914 := sf_ma tw3832 (p := 127) rfl
                                              have c3915 := sf_ma tw3832 (p := 128) rfl
                                              have c3916 := sf_ma tw3832 (p := 129) rfl
                                              have F0 := q3833_0
                                              have F1 := q3833_1
                                              clear q3833_0 q3833_1
                                              refine sf_istore (L' := [(0, .inl (.ref 100000)), (1, .inl (.ref 0)), (2, .inl (.ref 71)), (3, .inl (.ref 130)), (4, .inl (.int x4))]) rfl ?_
                                              refine sf_aload rfl ?_
                                              refine sf_aload rfl ?_
                                              refine sf_iload rfl ?_
                                              refine sf_iconst sf_c1 (fun z3917 ez3917 => ?_)
                                              refine sf_iadd (by omega) (fun v3918 ev3918 => ?_)
                                              refine sf_sldk (x := x4) (k := 1) (by omega) (by omega) (by omega) ?_
                                              clear ev3918 ez3917
                                              refine sf_aload rfl ?_
                                              refine sf_iload rfl ?_
                                              refine sf_iconst sf_c2 (fun z3919 ez3919 => ?_)
                                              refine sf_iadd (by omega) (fun v3920 ev3920 => ?_)
                                              refine sf_sldk (x := x4) (k := 2) (by omega) (by omega) (by omega) ?_
                                              clear ev3920 ez3919
                                              refine sf_callv3 rfl (by omega) (by omega) ?_
                                              refine sf_rv Iw3832 rfl ?_
                                              refine sc_M_export Iw3832 (by rw [c3892]; rw [c3893]; exact f_22.2.2.2.2.2.2.1) (fun v3921 w3922 Iw3922 tw3922 q3923_0 q3923_1 => ?_)
                                              rw [c3891] at q3923_0
                                              rw [c3892] at q3923_0
                                              rw [c3893] at q3923_0
                                              rw [c3894] at q3923_0
                                              rw [c3890] at q3923_0
                                              rw [c3891] at q3923_1
                                              rw [c3892] at q3923_1
                                              rw [c3893] at q3923_1
                                              rw [c3894] at q3923_1
                                              rw [c3890] at q3923_1
                                              have c3924 := sf_mf tw3922 (p := 1) (j := 0) rfl
                                              have c3925 := sf_mf tw3922 (p := 71) (j := 1) rfl
                                              have c3926 := sf_mf tw3922 (p := 1) (j := 5) rfl
                                              have c3927 := sf_mf tw3922 (p := 71) (j := 5) rfl
                                              have c3928 := sf_mf tw3922 (p := 13) (j := 1) rfl
                                              have c3929 := sf_mf tw3922 (p := 71) (j := 10) rfl
                                              have c3930 := sf_mf tw3922 (p := 21) (j := 1) rfl
                                              have c3931 := sf_mf tw3922 (p := 71) (j := 18) rfl
                                              have c3932 := sf_mf tw3922 (p := 35) (j := 0) rfl
                                              have c3933 := sf_mf tw3922 (p := 71) (j := 35) rfl
                                              have c3934 := sf_ma tw3922 (p := 3) rfl
                                              have c3935 := sf_ma tw3922 (p := 72) rfl
                                              have c3936 := sf_mg tw3922 (p := 10) rfl
                                              have c3937 := sf_ma tw3922 (p := 93) rfl
                                              have c3938 := sf_mL tw3922 (p := 130) rfl
                                              have c3939 := sf_ma tw3922 (p := 2) rfl
                                              have c3940 := sf_ma tw3922 (p := 6) rfl
                                              have c3941 := sf_ma tw3922 (p := 75) rfl
                                              have c3942 := sf_ma tw3922 (p := 7) rfl
                                              have c3943 := sf_ma tw3922 (p := 76) rfl
                                              have c3944 := sf_ma tw3922 (p := 8) rfl
                                              have c3945 := sf_ma tw3922 (p := 77) rfl
                                              have c3946 := sf_ma tw3922 (p := 9) rfl
                                              have c3947 := sf_ma tw3922 (p := 78) rfl
                                              have c3948 := sf_ma tw3922 (p := 14) rfl
                                              have c3949 := sf_ma tw3922 (p := 79) rfl
                                              have c3950 := sf_ma tw3922 (p := 15) rfl
                                              have c3951 := sf_ma tw3922 (p := 80) rfl
                                              have c3952 := sf_ma tw3922 (p := 16) rfl
                                              have c3953 := sf_ma tw3922 (p := 81) rfl
                                              have c3954 := sf_ma tw3922 (p := 17) rfl
                                              have c3955 := sf_ma tw3922 (p := 82) rfl
                                              have c3956 := sf_ma tw3922 (p := 18) rfl
                                              have c3957 := sf_ma tw3922 (p := 83) rfl
                                              have c3958 := sf_ma tw3922 (p := 19) rfl
                                              have c3959 := sf_ma tw3922 (p := 84) rfl
                                              have c3960 := sf_ma tw3922 (p := 20) rfl
                                              have c3961 := sf_ma tw3922 (p := 85) rfl
                                              have c3962 := sf_ma tw3922 (p := 24) rfl
                                              have c3963 := sf_ma tw3922 (p := 86) rfl
                                              have c3964 := sf_ma tw3922 (p := 25) rfl
                                              have c3965 := sf_ma tw3922 (p := 87) rfl
                                              have c3966 := sf_ma tw3922 (p := 23) rfl
                                              have c3967 := sf_ma tw3922 (p := 88) rfl
                                              have c3968 := sf_ma tw3922 (p := 26) rfl
                                              have c3969 := sf_ma tw3922 (p := 89) rfl
                                              have c3970 := sf_ma tw3922 (p := 27) rfl
                                              have c3971 := sf_ma tw3922 (p := 90) rfl
                                              have c3972 := sf_ma tw3922 (p := 36) rfl
                                              have c3973 := sf_ma tw3922 (p := 102) rfl
                                              have c3974 := sf_ma tw3922 (p := 37) rfl
                                              have c3975 := sf_ma tw3922 (p := 103) rfl
                                              have c3976 := sf_mf tw3922 (p := 60) (j := 0) rfl
                                              have c3977 := sf_ma tw3922 (p := 61) rfl
                                              have c3978 := sf_ma tw3922 (p := 62) rfl
                                              have c3979 := sf_ma tw3922 (p := 63) rfl
                                              have c3980 := sf_ma tw3922 (p := 65) rfl
                                              have c3981 := sf_ma tw3922 (p := 66) rfl
                                              have c3982 := sf_mf tw3922 (p := 71) (j := 56) rfl
                                              have c3983 := sf_ma tw3922 (p := 121) rfl
                                              have c3984 := sf_ma tw3922 (p := 122) rfl
                                              have c3985 := sf_ma tw3922 (p := 125) rfl
                                              have c3986 := sf_ma tw3922 (p := 126) rfl
                                              have c3987 := sf_ma tw3922 (p := 38) rfl
                                              have c3988 := sf_ma tw3922 (p := 40) rfl
                                              have c3989 := sf_ma tw3922 (p := 41) rfl
                                              have c3990 := sf_ma tw3922 (p := 42) rfl
                                              have c3991 := sf_ma tw3922 (p := 43) rfl
                                              have c3992 := sf_ma tw3922 (p := 44) rfl
                                              have c3993 := sf_ma tw3922 (p := 47) rfl
                                              have c3994 := sf_ma tw3922 (p := 104) rfl
                                              have c3995 := sf_ma tw3922 (p := 106) rfl
                                              have c3996 := sf_ma tw3922 (p := 113) rfl
                                              have c3997 := sf_ma tw3922 (p := 107) rfl
                                              have c3998 := sf_ma tw3922 (p := 108) rfl
                                              have c3999 := sf_ma tw3922 (p := 110) rfl
                                              have c4000 := sf_ma tw3922 (p := 109) rfl
                                              have c4001 := sf_mf tw3922 (p := 71) (j := 41) rfl
                                              have c4002 := sf_ma tw3922 (p := 68) rfl
                                              have c4003 := sf_ma tw3922 (p := 69) rfl
                                              have c4004 := sf_ma tw3922 (p := 70) rfl
                                              have c4005 := sf_ma tw3922 (p := 127) rfl
                                              have c4006 := sf_ma tw3922 (p := 128) rfl
                                              have c4007 := sf_ma tw3922 (p := 129) rfl
                                              have G0 := q3923_0
                                              have G1 := q3923_1
                                              clear q3923_0 q3923_1
                                              have b40 := (sf_fb I_w (p := 71) (ci := 9) (j := 56) rfl rfl)
                                              have hSS := sl_SE f_22 (x := (xs (x4.toInt.toNat + 1)).toInt) (x' := (xs (x4.toInt.toNat + 1)).toInt) (y := 0) (y' := 0) b40.2 rfl rfl
                                              have hrc : v3831.toInt = (sf_f w3922 71 0).toInt := by omega
                                              have hRL := sl_RLT f_22 F1 G1 hrc rfl rfl (fun h9 => by omega)
                                              clear F1 G1
                                              refine sf_lstore (L' := [(5, .inl (.int v3831)), (0, .inl (.ref 100000)), (1, .inl (.ref 0)), (2, .inl (.ref 71)), (3, .inl (.ref 130)), (4, .inl (.int x4))]) rfl ?_
                                              show kt_W_law_1421 N xs K _ _ _ _ _
                                              refine sf_iinc (L' := [(6, .inl (.long v3921)), (5, .inl (.int v3831)), (0, .inl (.ref 100000)), (1, .inl (.ref 0)), (2, .inl (.ref 71)), (3, .inl (.ref 130))]) (x := x4) sf_c8 rfl rfl (by omega) (fun v4008 ev4008 => ?_)
                                              refine sf_can (L' := [(0, .inl (.ref 100000)), (1, .inl (.ref 0)), (2, .inl (.ref 71)), (3, .inl (.ref 130)), (4, .inl (.int v4008))]) rfl ?_
                                              exact ih _ _ _ _ Iw3922 (by omega) (by omega) (by omega) (by omega) (by rw [c3924, c3834]; rw [c3925, c3835]; rw [c3926, c3836]; rw [c3927, c3837]; rw [c3928, c3838]; rw [c3929, c3839]; rw [c3930, c3840]; rw [c3931, c3841]; rw [c3932, c3842]; rw [c3933, c3843]; omega) (by rw [c3934, c3844]; rw [c3935, c3845]; rw [c3925, c3835]; first | exact f_1 | exact hJ) (by rw [c3936, c3846]; rw [c3937, c3847]; first | exact f_2 | exact hK2) (by rw [c3939, c3848]; rw [c3935, c3845]; rw [c3925, c3835]; first | exact f_3 | exact hQ2) (by rw [c3940, c3849]; rw [c3941, c3850]; rw [c3927, c3837]; first | exact f_4 | exact hQ6) (by rw [c3942, c3851]; rw [c3943, c3852]; rw [c3927, c3837]; first | exact f_5 | exact hQ7) (by rw [c3944, c3853]; rw [c3945, c3854]; rw [c3927, c3837]; first | exact f_6 | exact hQ8) (by rw [c3946, c3855]; rw [c3947, c3856]; rw [c3927, c3837]; first | exact f_7 | exact hQ9) (by rw [c3948, c3857]; rw [c3949, c3858]; rw [c3929, c3839]; first | exact f_8 | exact hQ14) (by rw [c3950, c3859]; rw [c3951, c3860]; rw [c3929, c3839]; first | exact f_9 | exact hQ15) (by rw [c3952, c3861]; rw [c3953, c3862]; rw [c3929, c3839]; first | exact f_10 | exact hQ16) (by rw [c3954, c3863]; rw [c3955, c3864]; rw [c3929, c3839]; first | exact f_11 | exact hQ17) (by rw [c3956, c3865]; rw [c3957, c3866]; rw [c3929, c3839]; first | exact f_12 | exact hQ18) (by rw [c3958, c3867]; rw [c3959, c3868]; rw [c3929, c3839]; first | exact f_13 | exact hQ19) (by rw [c3960, c3869]; rw [c3961, c3870]; rw [c3929, c3839]; first | exact f_14 | exact hQ20) (by rw [c3962, c3871]; rw [c3963, c3872]; rw [c3931, c3841]; first | exact f_15 | exact hQ24) (by rw [c3964, c3873]; rw [c3965, c3874]; rw [c3931, c3841]; first | exact f_16 | exact hQ25) (by rw [c3966, c3875]; rw [c3967, c3876]; rw [c3931, c3841]; first | exact f_17 | exact hQ23) (by rw [c3968, c3877]; rw [c3969, c3878]; rw [c3931, c3841]; first | exact f_18 | exact hQ26) (by rw [c3970, c3879]; rw [c3971, c3880]; rw [c3931, c3841]; first | exact f_19 | exact hQ27) (by rw [c3972, c3881]; rw [c3973, c3882]; rw [c3933, c3843]; first | exact f_20 | exact hQ36) (by rw [c3974, c3883]; rw [c3975, c3884]; rw [c3933, c3843]; first | exact f_21 | exact hQ37) (by rw [c3976, c3885]; rw [c3982, c3890]; rw [c3977, c3886]; rw [c3978, c3887]; rw [c3979]; rw [c3980, c3888]; rw [c3981, c3889]; rw [c3983, c3891]; rw [c3984, c3892]; rw [c3985, c3894]; rw [c3986, c3895]; exact hRL) (by rw [c3987, c3896]; rw [c3994, c3903]; rw [c3988, c3897]; rw [c3995, c3904]; rw [c3990, c3899]; rw [c3997, c3906]; rw [c3991, c3900]; rw [c3998, c3907]; rw [c3993, c3902]; rw [c4000, c3909]; rw [c3992, c3901]; rw [c3999, c3908]; exact f_23) (by rw [c3988, c3897]; rw [c3987, c3896]; rw [c3989, c3898]; rw [c3996, c3905]; exact f_24) (by rw [c3973, c3882]; rw [c3975, c3884]; rw [c3995, c3904]; rw [c3933, c3843]; rw [c4001, c3910]; exact f_25) (by rw [c3995, c3904]; rw [c3933, c3843]; exact f_26) (by rw [c4002, c3911]; rw [c4005, c3914]; rw [c4003, c3912]; rw [c4006, c3915]; rw [c4004, c3913]; rw [c4007, c3916]; exact f_27) (by omega)
                                            · clear h3826
                                              refine sf_sw1 sf_c20 (fun h4009 => ?_) (fun h4009 => ?_)
                                              · refine sf_aload rfl ?_
                                                refine sf_aload rfl ?_
                                                refine sf_iload rfl ?_
                                                refine sf_iconst sf_c1 (fun z4010 ez4010 => ?_)
                                                refine sf_iadd (by omega) (fun v4011 ev4011 => ?_)
                                                refine sf_sldk (x := x4) (k := 1) (by omega) (by omega) (by omega) ?_
                                                clear ev4011 ez4010
                                                refine sf_aload rfl ?_
                                                refine sf_iload rfl ?_
                                                refine sf_iconst sf_c2 (fun z4012 ez4012 => ?_)
                                                refine sf_iadd (by omega) (fun v4013 ev4013 => ?_)
                                                refine sf_sldk (x := x4) (k := 2) (by omega) (by omega) (by omega) ?_
                                                clear ev4013 ez4012
                                                refine sf_aload rfl ?_
                                                refine sf_iload rfl ?_
                                                refine sf_iconst sf_c3 (fun z4014 ez4014 => ?_)
                                                refine sf_iadd (by omega) (fun v4015 ev4015 => ?_)
                                                refine sf_sldk (x := x4) (k := 3) (by omega) (by omega) (by omega) ?_
                                                clear ev4015 ez4014
                                                refine sf_aload rfl ?_
                                                refine sf_iload rfl ?_
                                                refine sf_iconst sf_c4 (fun z4016 ez4016 => ?_)
                                                refine sf_iadd (by omega) (fun v4017 ev4017 => ?_)
                                                refine sf_sldk (x := x4) (k := 4) (by omega) (by omega) (by omega) ?_
                                                clear ev4017 ez4016
                                                refine sf_aload rfl ?_
                                                refine sf_callv6 rfl (by omega) (by omega) ?_
                                                refine sc_W_work_0_130 I_w (by exact sl_Bq f_22.2.2.1 f_22.2.2.2.1 f_22.2.2.2.2.2.2.1) (fun v4018 w4019 Iw4019 tw4019 lv4018 uv4018 q4020_0 q4020_1 q4020_2 q4020_3 q4020_4 => ?_)
                                                have c4021 := sf_mf tw4019 (p := 1) (j := 0) rfl
                                                have c4022 := sf_mf tw4019 (p := 71) (j := 1) rfl
                                                have c4023 := sf_mf tw4019 (p := 1) (j := 5) rfl
                                                have c4024 := sf_mf tw4019 (p := 71) (j := 5) rfl
                                                have c4025 := sf_mf tw4019 (p := 13) (j := 1) rfl
                                                have c4026 := sf_mf tw4019 (p := 71) (j := 10) rfl
                                                have c4027 := sf_mf tw4019 (p := 21) (j := 1) rfl
                                                have c4028 := sf_mf tw4019 (p := 71) (j := 18) rfl
                                                have c4029 := sf_mf tw4019 (p := 35) (j := 0) rfl
                                                have c4030 := sf_mf tw4019 (p := 71) (j := 35) rfl
                                                have c4031 := sf_ma tw4019 (p := 3) rfl
                                                have c4032 := sf_ma tw4019 (p := 72) rfl
                                                have c4033 := sf_mg tw4019 (p := 10) rfl
                                                have c4034 := sf_ma tw4019 (p := 93) rfl
                                                have c4035 := sf_ma tw4019 (p := 2) rfl
                                                have c4036 := sf_ma tw4019 (p := 6) rfl
                                                have c4037 := sf_ma tw4019 (p := 75) rfl
                                                have c4038 := sf_ma tw4019 (p := 7) rfl
                                                have c4039 := sf_ma tw4019 (p := 76) rfl
                                                have c4040 := sf_ma tw4019 (p := 8) rfl
                                                have c4041 := sf_ma tw4019 (p := 77) rfl
                                                have c4042 := sf_ma tw4019 (p := 9) rfl
                                                have c4043 := sf_ma tw4019 (p := 78) rfl
                                                have c4044 := sf_ma tw4019 (p := 14) rfl
                                                have c4045 := sf_ma tw4019 (p := 79) rfl
                                                have c4046 := sf_ma tw4019 (p := 15) rfl
                                                have c4047 := sf_ma tw4019 (p := 80) rfl
                                                have c4048 := sf_ma tw4019 (p := 16) rfl
                                                have c4049 := sf_ma tw4019 (p := 81) rfl
                                                have c4050 := sf_ma tw4019 (p := 17) rfl
                                                have c4051 := sf_ma tw4019 (p := 82) rfl
                                                have c4052 := sf_ma tw4019 (p := 18) rfl
                                                have c4053 := sf_ma tw4019 (p := 83) rfl
                                                have c4054 := sf_ma tw4019 (p := 19) rfl
                                                have c4055 := sf_ma tw4019 (p := 84) rfl
                                                have c4056 := sf_ma tw4019 (p := 20) rfl
                                                have c4057 := sf_ma tw4019 (p := 85) rfl
                                                have c4058 := sf_ma tw4019 (p := 24) rfl
                                                have c4059 := sf_ma tw4019 (p := 86) rfl
                                                have c4060 := sf_ma tw4019 (p := 25) rfl
                                                have c4061 := sf_ma tw4019 (p := 87) rfl
                                                have c4062 := sf_ma tw4019 (p := 23) rfl
                                                have c4063 := sf_ma tw4019 (p := 88) rfl
                                                have c4064 := sf_ma tw4019 (p := 26) rfl
                                                have c4065 := sf_ma tw4019 (p := 89) rfl
                                                have c4066 := sf_ma tw4019 (p := 27) rfl
                                                have c4067 := sf_ma tw4019 (p := 90) rfl
                                                have c4068 := sf_ma tw4019 (p := 36) rfl
                                                have c4069 := sf_ma tw4019 (p := 102) rfl
                                                have c4070 := sf_ma tw4019 (p := 37) rfl
                                                have c4071 := sf_ma tw4019 (p := 103) rfl
                                                have c4072 := sf_mf tw4019 (p := 71) (j := 56) rfl
                                                have c4073 := sf_ma tw4019 (p := 121) rfl
                                                have c4074 := sf_ma tw4019 (p := 122) rfl
                                                have c4075 := sf_ma tw4019 (p := 123) rfl
                                                have c4076 := sf_ma tw4019 (p := 125) rfl
                                                have c4077 := sf_ma tw4019 (p := 126) rfl
                                                have c4078 := sf_ma tw4019 (p := 38) rfl
                                                have c4079 := sf_ma tw4019 (p := 40) rfl
                                                have c4080 := sf_ma tw4019 (p := 41) rfl
                                                have c4081 := sf_ma tw4019 (p := 42) rfl
                                                have c4082 := sf_ma tw4019 (p := 43) rfl
                                                have c4083 := sf_ma tw4019 (p := 44) rfl
                                                have c4084 := sf_ma tw4019 (p := 47) rfl
                                                have c4085 := sf_ma tw4019 (p := 104) rfl
                                                have c4086 := sf_ma tw4019 (p := 106) rfl
                                                have c4087 := sf_ma tw4019 (p := 113) rfl
                                                have c4088 := sf_ma tw4019 (p := 107) rfl
                                                have c4089 := sf_ma tw4019 (p := 108) rfl
                                                have c4090 := sf_ma tw4019 (p := 110) rfl
                                                have c4091 := sf_ma tw4019 (p := 109) rfl
                                                have c4092 := sf_mf tw4019 (p := 71) (j := 41) rfl
                                                have c4093 := sf_ma tw4019 (p := 68) rfl
                                                have c4094 := sf_ma tw4019 (p := 127) rfl
                                                have c4095 := sf_ma tw4019 (p := 128) rfl
                                                have c4096 := sf_ma tw4019 (p := 129) rfl
                                                have F0 := q4020_0
                                                have F1 := q4020_1
                                                have F2 := q4020_2
                                                have F3 := q4020_3
                                                have F4 := q4020_4
                                                clear q4020_0 q4020_1 q4020_2 q4020_3 q4020_4
                                                refine sf_istore (L' := [(0, .inl (.ref 100000)), (1, .inl (.ref 0)), (2, .inl (.ref 71)), (3, .inl (.ref 130)), (4, .inl (.int x4))]) rfl ?_
                                                refine sf_aload rfl ?_
                                                refine sf_aload rfl ?_
                                                refine sf_iload rfl ?_
                                                refine sf_iconst sf_c1 (fun z4097 ez4097 => ?_)
                                                refine sf_iadd (by omega) (fun v4098 ev4098 => ?_)
                                                refine sf_sldk (x := x4) (k := 1) (by omega) (by omega) (by omega) ?_
                                                clear ev4098 ez4097
                                                refine sf_aload rfl ?_
                                                refine sf_iload rfl ?_
                                                refine sf_iconst sf_c2 (fun z4099 ez4099 => ?_)
                                                refine sf_iadd (by omega) (fun v4100 ev4100 => ?_)
                                                refine sf_sldk (x := x4) (k := 2) (by omega) (by omega) (by omega) ?_
                                                clear ev4100 ez4099
                                                refine sf_aload rfl ?_
                                                refine sf_iload rfl ?_
                                                refine sf_iconst sf_c3 (fun z4101 ez4101 => ?_)
                                                refine sf_iadd (by omega) (fun v4102 ev4102 => ?_)
                                                refine sf_sldk (x := x4) (k := 3) (by omega) (by omega) (by omega) ?_
                                                clear ev4102 ez4101
                                                refine sf_aload rfl ?_
                                                refine sf_iload rfl ?_
                                                refine sf_iconst sf_c4 (fun z4103 ez4103 => ?_)
                                                refine sf_iadd (by omega) (fun v4104 ev4104 => ?_)
                                                refine sf_sldk (x := x4) (k := 4) (by omega) (by omega) (by omega) ?_
                                                clear ev4104 ez4103
                                                refine sf_callv5 rfl (by omega) (by omega) ?_
                                                refine sf_rv Iw4019 rfl ?_
                                                refine sc_M_work Iw4019 (by rw [c4074]; rw [c4075]; exact f_22.2.2.2.2.2.2.1) (fun v4105 w4106 Iw4106 tw4106 lv4105 uv4105 q4107_0 q4107_1 q4107_2 q4107_3 q4107_4 => ?_)
                                                rw [c4073] at q4107_0
                                                rw [c4074] at q4107_0
                                                rw [c4075] at q4107_0
                                                rw [c4076] at q4107_0
                                                rw [c4072] at q4107_0
                                                rw [c4073] at q4107_1
                                                rw [c4074] at q4107_1
                                                rw [c4075] at q4107_1
                                                rw [c4076] at q4107_1
                                                rw [c4072] at q4107_1
                                                rw [c4095] at q4107_2
                                                rw [c4096] at q4107_3
                                                rw [c4073] at q4107_4
                                                rw [c4074] at q4107_4
                                                rw [c4076] at q4107_4
                                                rw [c4077] at q4107_4
                                                rw [c4072] at q4107_4
                                                have c4108 := sf_mf tw4106 (p := 1) (j := 0) rfl
                                                have c4109 := sf_mf tw4106 (p := 71) (j := 1) rfl
                                                have c4110 := sf_mf tw4106 (p := 1) (j := 5) rfl
                                                have c4111 := sf_mf tw4106 (p := 71) (j := 5) rfl
                                                have c4112 := sf_mf tw4106 (p := 13) (j := 1) rfl
                                                have c4113 := sf_mf tw4106 (p := 71) (j := 10) rfl
                                                have c4114 := sf_mf tw4106 (p := 21) (j := 1) rfl
                                                have c4115 := sf_mf tw4106 (p := 71) (j := 18) rfl
                                                have c4116 := sf_mf tw4106 (p := 35) (j := 0) rfl
                                                have c4117 := sf_mf tw4106 (p := 71) (j := 35) rfl
                                                have c4118 := sf_ma tw4106 (p := 3) rfl
                                                have c4119 := sf_ma tw4106 (p := 72) rfl
                                                have c4120 := sf_mg tw4106 (p := 10) rfl
                                                have c4121 := sf_ma tw4106 (p := 93) rfl
                                                have c4122 := sf_mL tw4106 (p := 130) rfl
                                                have c4123 := sf_ma tw4106 (p := 2) rfl
                                                have c4124 := sf_ma tw4106 (p := 6) rfl
                                                have c4125 := sf_ma tw4106 (p := 75) rfl
                                                have c4126 := sf_ma tw4106 (p := 7) rfl
                                                have c4127 := sf_ma tw4106 (p := 76) rfl
                                                have c4128 := sf_ma tw4106 (p := 8) rfl
                                                have c4129 := sf_ma tw4106 (p := 77) rfl
                                                have c4130 := sf_ma tw4106 (p := 9) rfl
                                                have c4131 := sf_ma tw4106 (p := 78) rfl
                                                have c4132 := sf_ma tw4106 (p := 14) rfl
                                                have c4133 := sf_ma tw4106 (p := 79) rfl
                                                have c4134 := sf_ma tw4106 (p := 15) rfl
                                                have c4135 := sf_ma tw4106 (p := 80) rfl
                                                have c4136 := sf_ma tw4106 (p := 16) rfl
                                                have c4137 := sf_ma tw4106 (p := 81) rfl
                                                have c4138 := sf_ma tw4106 (p := 17) rfl
                                                have c4139 := sf_ma tw4106 (p := 82) rfl
                                                have c4140 := sf_ma tw4106 (p := 18) rfl
                                                have c4141 := sf_ma tw4106 (p := 83) rfl
                                                have c4142 := sf_ma tw4106 (p := 19) rfl
                                                have c4143 := sf_ma tw4106 (p := 84) rfl
                                                have c4144 := sf_ma tw4106 (p := 20) rfl
                                                have c4145 := sf_ma tw4106 (p := 85) rfl
                                                have c4146 := sf_ma tw4106 (p := 24) rfl
                                                have c4147 := sf_ma tw4106 (p := 86) rfl
                                                have c4148 := sf_ma tw4106 (p := 25) rfl
                                                have c4149 := sf_ma tw4106 (p := 87) rfl
                                                have c4150 := sf_ma tw4106 (p := 23) rfl
                                                have c4151 := sf_ma tw4106 (p := 88) rfl
                                                have c4152 := sf_ma tw4106 (p := 26) rfl
                                                have c4153 := sf_ma tw4106 (p := 89) rfl
                                                have c4154 := sf_ma tw4106 (p := 27) rfl
                                                have c4155 := sf_ma tw4106 (p := 90) rfl
                                                have c4156 := sf_ma tw4106 (p := 36) rfl
                                                have c4157 := sf_ma tw4106 (p := 102) rfl
                                                have c4158 := sf_ma tw4106 (p := 37) rfl
                                                have c4159 := sf_ma tw4106 (p := 103) rfl
                                                have c4160 := sf_mf tw4106 (p := 60) (j := 0) rfl
                                                have c4161 := sf_ma tw4106 (p := 61) rfl
                                                have c4162 := sf_ma tw4106 (p := 62) rfl
                                                have c4163 := sf_ma tw4106 (p := 63) rfl
                                                have c4164 := sf_ma tw4106 (p := 65) rfl
                                                have c4165 := sf_ma tw4106 (p := 66) rfl
                                                have c4166 := sf_ma tw4106 (p := 38) rfl
                                                have c4167 := sf_ma tw4106 (p := 40) rfl
                                                have c4168 := sf_ma tw4106 (p := 41) rfl
                                                have c4169 := sf_ma tw4106 (p := 42) rfl
                                                have c4170 := sf_ma tw4106 (p := 43) rfl
                                                have c4171 := sf_ma tw4106 (p := 44) rfl
                                                have c4172 := sf_ma tw4106 (p := 47) rfl
                                                have c4173 := sf_ma tw4106 (p := 104) rfl
                                                have c4174 := sf_ma tw4106 (p := 106) rfl
                                                have c4175 := sf_ma tw4106 (p := 113) rfl
                                                have c4176 := sf_ma tw4106 (p := 107) rfl
                                                have c4177 := sf_ma tw4106 (p := 108) rfl
                                                have c4178 := sf_ma tw4106 (p := 110) rfl
                                                have c4179 := sf_ma tw4106 (p := 109) rfl
                                                have c4180 := sf_mf tw4106 (p := 71) (j := 41) rfl
                                                have c4181 := sf_ma tw4106 (p := 68) rfl
                                                have c4182 := sf_ma tw4106 (p := 69) rfl
                                                have c4183 := sf_ma tw4106 (p := 70) rfl
                                                have c4184 := sf_ma tw4106 (p := 127) rfl
                                                have G0 := q4107_0
                                                have G1 := q4107_1
                                                have G2 := q4107_2
                                                have G3 := q4107_3
                                                have G4 := q4107_4
                                                clear q4107_0 q4107_1 q4107_2 q4107_3 q4107_4
                                                have b40 := (sf_fb I_w (p := 71) (ci := 9) (j := 56) rfl rfl)
                                                have hSS := sl_SE f_22 (x := (xs (x4.toInt.toNat + 1)).toInt) (x' := (xs (x4.toInt.toNat + 1)).toInt) (y := 1) (y' := 1) b40.2 rfl rfl
                                                have hcc := f_22.1
                                                have hrc : v4018.toInt = (sf_f w4106 71 0).toInt := by omega
                                                have hRL1 := sl_RLT f_22 F1 G1 hrc rfl rfl (fun h9 => by omega)
                                                have hRL := sl_WRK hRL1 (by omega) F4 G4 hrc rfl rfl (fun h9 => by omega)
                                                have hRG : sf_Q 16 (sf_a w 68) (sf_a w 127) ∧ sf_Q 16 (sf_a w4019 69) (sf_a w4106 128) ∧ sf_Q 16 (sf_a w4019 70) (sf_a w4106 129) := ⟨f_27.1, sl_QV f_27.2.1 F2 G2 hrc rfl rfl (fun h9 => by omega), sl_QV f_27.2.2 F3 G3 hrc rfl rfl (fun h9 => by omega)⟩
                                                clear F1 F2 F3 F4 G1 G2 G3 G4 hRL1
                                                refine sf_istore (L' := [(5, .inl (.int v4018)), (0, .inl (.ref 100000)), (1, .inl (.ref 0)), (2, .inl (.ref 71)), (3, .inl (.ref 130)), (4, .inl (.int x4))]) rfl ?_
                                                show kt_W_law_1421 N xs K _ _ _ _ _
                                                refine sf_iinc (L' := [(6, .inl (.int v4105)), (5, .inl (.int v4018)), (0, .inl (.ref 100000)), (1, .inl (.ref 0)), (2, .inl (.ref 71)), (3, .inl (.ref 130))]) (x := x4) sf_c8 rfl rfl (by omega) (fun v4185 ev4185 => ?_)
                                                refine sf_can (L' := [(0, .inl (.ref 100000)), (1, .inl (.ref 0)), (2, .inl (.ref 71)), (3, .inl (.ref 130)), (4, .inl (.int v4185))]) rfl ?_
                                                exact ih _ _ _ _ Iw4106 (by omega) (by omega) (by omega) (by omega) (by rw [c4108, c4021]; rw [c4109, c4022]; rw [c4110, c4023]; rw [c4111, c4024]; rw [c4112, c4025]; rw [c4113, c4026]; rw [c4114, c4027]; rw [c4115, c4028]; rw [c4116, c4029]; rw [c4117, c4030]; omega) (by rw [c4118, c4031]; rw [c4119, c4032]; rw [c4109, c4022]; first | exact f_1 | exact hJ) (by rw [c4120, c4033]; rw [c4121, c4034]; first | exact f_2 | exact hK2) (by rw [c4123, c4035]; rw [c4119, c4032]; rw [c4109, c4022]; first | exact f_3 | exact hQ2) (by rw [c4124, c4036]; rw [c4125, c4037]; rw [c4111, c4024]; first | exact f_4 | exact hQ6) (by rw [c4126, c4038]; rw [c4127, c4039]; rw [c4111, c4024]; first | exact f_5 | exact hQ7) (by rw [c4128, c4040]; rw [c4129, c4041]; rw [c4111, c4024]; first | exact f_6 | exact hQ8) (by rw [c4130, c4042]; rw [c4131, c4043]; rw [c4111, c4024]; first | exact f_7 | exact hQ9) (by rw [c4132, c4044]; rw [c4133, c4045]; rw [c4113, c4026]; first | exact f_8 | exact hQ14) (by rw [c4134, c4046]; rw [c4135, c4047]; rw [c4113, c4026]; first | exact f_9 | exact hQ15) (by rw [c4136, c4048]; rw [c4137, c4049]; rw [c4113, c4026]; first | exact f_10 | exact hQ16) (by rw [c4138, c4050]; rw [c4139, c4051]; rw [c4113, c4026]; first | exact f_11 | exact hQ17) (by rw [c4140, c4052]; rw [c4141, c4053]; rw [c4113, c4026]; first | exact f_12 | exact hQ18) (by rw [c4142, c4054]; rw [c4143, c4055]; rw [c4113, c4026]; first | exact f_13 | exact hQ19) (by rw [c4144, c4056]; rw [c4145, c4057]; rw [c4113, c4026]; first | exact f_14 | exact hQ20) (by rw [c4146, c4058]; rw [c4147, c4059]; rw [c4115, c4028]; first | exact f_15 | exact hQ24) (by rw [c4148, c4060]; rw [c4149, c4061]; rw [c4115, c4028]; first | exact f_16 | exact hQ25) (by rw [c4150, c4062]; rw [c4151, c4063]; rw [c4115, c4028]; first | exact f_17 | exact hQ23) (by rw [c4152, c4064]; rw [c4153, c4065]; rw [c4115, c4028]; first | exact f_18 | exact hQ26) (by rw [c4154, c4066]; rw [c4155, c4067]; rw [c4115, c4028]; first | exact f_19 | exact hQ27) (by rw [c4156, c4068]; rw [c4157, c4069]; rw [c4117, c4030]; first | exact f_20 | exact hQ36) (by rw [c4158, c4070]; rw [c4159, c4071]; rw [c4117, c4030]; first | exact f_21 | exact hQ37) (by rw [c4160]; rw [c4161]; rw [c4162]; rw [c4163]; rw [c4164]; rw [c4165]; exact hRL) (by rw [c4166, c4078]; rw [c4173, c4085]; rw [c4167, c4079]; rw [c4174, c4086]; rw [c4169, c4081]; rw [c4176, c4088]; rw [c4170, c4082]; rw [c4177, c4089]; rw [c4172, c4084]; rw [c4179, c4091]; rw [c4171, c4083]; rw [c4178, c4090]; exact f_23) (by rw [c4167, c4079]; rw [c4166, c4078]; rw [c4168, c4080]; rw [c4175, c4087]; exact f_24) (by rw [c4157, c4069]; rw [c4159, c4071]; rw [c4174, c4086]; rw [c4117, c4030]; rw [c4180, c4092]; exact f_25) (by rw [c4174, c4086]; rw [c4117, c4030]; exact f_26) (by rw [c4181, c4093]; rw [c4184, c4094]; rw [c4182]; rw [c4183]; exact hRG) (by omega)
                                              · clear h4009
                                                refine sf_sw1 sf_c21 (fun h4186 => ?_) (fun h4186 => ?_)
                                                · refine sf_aload rfl ?_
                                                  refine sf_aload rfl ?_
                                                  refine sf_iload rfl ?_
                                                  refine sf_iconst sf_c1 (fun z4187 ez4187 => ?_)
                                                  refine sf_iadd (by omega) (fun v4188 ev4188 => ?_)
                                                  refine sf_sldk (x := x4) (k := 1) (by omega) (by omega) (by omega) ?_
                                                  clear ev4188 ez4187
                                                  refine sf_aload rfl ?_
                                                  refine sf_iload rfl ?_
                                                  refine sf_iconst sf_c2 (fun z4189 ez4189 => ?_)
                                                  refine sf_iadd (by omega) (fun v4190 ev4190 => ?_)
                                                  refine sf_sldk (x := x4) (k := 2) (by omega) (by omega) (by omega) ?_
                                                  clear ev4190 ez4189
                                                  refine sf_aload rfl ?_
                                                  refine sf_callv4 rfl (by omega) (by omega) ?_
                                                  refine sc_W_lot_0_130 I_w  (fun v4191 w4192 Iw4192 tw4192 lv4191 uv4191 => ?_)
                                                  have c4194 := sf_mf tw4192 (p := 1) (j := 0) rfl
                                                  have c4195 := sf_mf tw4192 (p := 71) (j := 1) rfl
                                                  have c4196 := sf_mf tw4192 (p := 1) (j := 5) rfl
                                                  have c4197 := sf_mf tw4192 (p := 71) (j := 5) rfl
                                                  have c4198 := sf_mf tw4192 (p := 13) (j := 1) rfl
                                                  have c4199 := sf_mf tw4192 (p := 71) (j := 10) rfl
                                                  have c4200 := sf_mf tw4192 (p := 21) (j := 1) rfl
                                                  have c4201 := sf_mf tw4192 (p := 71) (j := 18) rfl
                                                  have c4202 := sf_mf tw4192 (p := 35) (j := 0) rfl
                                                  have c4203 := sf_mf tw4192 (p := 71) (j := 35) rfl
                                                  have c4204 := sf_ma tw4192 (p := 3) rfl
                                                  have c4205 := sf_ma tw4192 (p := 72) rfl
                                                  have c4206 := sf_mg tw4192 (p := 10) rfl
                                                  have c4207 := sf_ma tw4192 (p := 93) rfl
                                                  have c4208 := sf_ma tw4192 (p := 2) rfl
                                                  have c4209 := sf_ma tw4192 (p := 6) rfl
                                                  have c4210 := sf_ma tw4192 (p := 75) rfl
                                                  have c4211 := sf_ma tw4192 (p := 7) rfl
                                                  have c4212 := sf_ma tw4192 (p := 76) rfl
                                                  have c4213 := sf_ma tw4192 (p := 8) rfl
                                                  have c4214 := sf_ma tw4192 (p := 77) rfl
                                                  have c4215 := sf_ma tw4192 (p := 9) rfl
                                                  have c4216 := sf_ma tw4192 (p := 78) rfl
                                                  have c4217 := sf_ma tw4192 (p := 14) rfl
                                                  have c4218 := sf_ma tw4192 (p := 79) rfl
                                                  have c4219 := sf_ma tw4192 (p := 15) rfl
                                                  have c4220 := sf_ma tw4192 (p := 80) rfl
                                                  have c4221 := sf_ma tw4192 (p := 16) rfl
                                                  have c4222 := sf_ma tw4192 (p := 81) rfl
                                                  have c4223 := sf_ma tw4192 (p := 17) rfl
                                                  have c4224 := sf_ma tw4192 (p := 82) rfl
                                                  have c4225 := sf_ma tw4192 (p := 18) rfl
                                                  have c4226 := sf_ma tw4192 (p := 83) rfl
                                                  have c4227 := sf_ma tw4192 (p := 19) rfl
                                                  have c4228 := sf_ma tw4192 (p := 84) rfl
                                                  have c4229 := sf_ma tw4192 (p := 20) rfl
                                                  have c4230 := sf_ma tw4192 (p := 85) rfl
                                                  have c4231 := sf_ma tw4192 (p := 24) rfl
                                                  have c4232 := sf_ma tw4192 (p := 86) rfl
                                                  have c4233 := sf_ma tw4192 (p := 25) rfl
                                                  have c4234 := sf_ma tw4192 (p := 87) rfl
                                                  have c4235 := sf_ma tw4192 (p := 23) rfl
                                                  have c4236 := sf_ma tw4192 (p := 88) rfl
                                                  have c4237 := sf_ma tw4192 (p := 26) rfl
                                                  have c4238 := sf_ma tw4192 (p := 89) rfl
                                                  have c4239 := sf_ma tw4192 (p := 27) rfl
                                                  have c4240 := sf_ma tw4192 (p := 90) rfl
                                                  have c4241 := sf_ma tw4192 (p := 36) rfl
                                                  have c4242 := sf_ma tw4192 (p := 102) rfl
                                                  have c4243 := sf_ma tw4192 (p := 37) rfl
                                                  have c4244 := sf_ma tw4192 (p := 103) rfl
                                                  have c4245 := sf_mf tw4192 (p := 60) (j := 0) rfl
                                                  have c4246 := sf_ma tw4192 (p := 61) rfl
                                                  have c4247 := sf_ma tw4192 (p := 62) rfl
                                                  have c4248 := sf_ma tw4192 (p := 63) rfl
                                                  have c4249 := sf_ma tw4192 (p := 65) rfl
                                                  have c4250 := sf_ma tw4192 (p := 66) rfl
                                                  have c4251 := sf_mf tw4192 (p := 71) (j := 56) rfl
                                                  have c4252 := sf_ma tw4192 (p := 121) rfl
                                                  have c4253 := sf_ma tw4192 (p := 122) rfl
                                                  have c4254 := sf_ma tw4192 (p := 123) rfl
                                                  have c4255 := sf_ma tw4192 (p := 125) rfl
                                                  have c4256 := sf_ma tw4192 (p := 126) rfl
                                                  have c4257 := sf_ma tw4192 (p := 38) rfl
                                                  have c4258 := sf_ma tw4192 (p := 40) rfl
                                                  have c4259 := sf_ma tw4192 (p := 41) rfl
                                                  have c4260 := sf_ma tw4192 (p := 42) rfl
                                                  have c4261 := sf_ma tw4192 (p := 43) rfl
                                                  have c4262 := sf_ma tw4192 (p := 44) rfl
                                                  have c4263 := sf_ma tw4192 (p := 47) rfl
                                                  have c4264 := sf_ma tw4192 (p := 104) rfl
                                                  have c4265 := sf_ma tw4192 (p := 106) rfl
                                                  have c4266 := sf_ma tw4192 (p := 113) rfl
                                                  have c4267 := sf_ma tw4192 (p := 107) rfl
                                                  have c4268 := sf_ma tw4192 (p := 108) rfl
                                                  have c4269 := sf_ma tw4192 (p := 110) rfl
                                                  have c4270 := sf_ma tw4192 (p := 109) rfl
                                                  have c4271 := sf_mf tw4192 (p := 71) (j := 41) rfl
                                                  have c4272 := sf_ma tw4192 (p := 68) rfl
                                                  have c4273 := sf_ma tw4192 (p := 69) rfl
                                                  have c4274 := sf_ma tw4192 (p := 70) rfl
                                                  have c4275 := sf_ma tw4192 (p := 127) rfl
                                                  have c4276 := sf_ma tw4192 (p := 128) rfl
                                                  have c4277 := sf_ma tw4192 (p := 129) rfl
                                                  refine sf_istore (L' := [(0, .inl (.ref 100000)), (1, .inl (.ref 0)), (2, .inl (.ref 71)), (3, .inl (.ref 130)), (4, .inl (.int x4))]) rfl ?_
                                                  refine sf_aload rfl ?_
                                                  refine sf_aload rfl ?_
                                                  refine sf_iload rfl ?_
                                                  refine sf_iconst sf_c1 (fun z4278 ez4278 => ?_)
                                                  refine sf_iadd (by omega) (fun v4279 ev4279 => ?_)
                                                  refine sf_sldk (x := x4) (k := 1) (by omega) (by omega) (by omega) ?_
                                                  clear ev4279 ez4278
                                                  refine sf_aload rfl ?_
                                                  refine sf_iload rfl ?_
                                                  refine sf_iconst sf_c2 (fun z4280 ez4280 => ?_)
                                                  refine sf_iadd (by omega) (fun v4281 ev4281 => ?_)
                                                  refine sf_sldk (x := x4) (k := 2) (by omega) (by omega) (by omega) ?_
                                                  clear ev4281 ez4280
                                                  refine sf_callv3 rfl (by omega) (by omega) ?_
                                                  refine sf_rv Iw4192 rfl ?_
                                                  refine sc_M_lot Iw4192  (fun v4282 w4283 Iw4283 tw4283 => ?_)
                                                  have c4285 := sf_mf tw4283 (p := 1) (j := 0) rfl
                                                  have c4286 := sf_mf tw4283 (p := 71) (j := 1) rfl
                                                  have c4287 := sf_mf tw4283 (p := 1) (j := 5) rfl
                                                  have c4288 := sf_mf tw4283 (p := 71) (j := 5) rfl
                                                  have c4289 := sf_mf tw4283 (p := 13) (j := 1) rfl
                                                  have c4290 := sf_mf tw4283 (p := 71) (j := 10) rfl
                                                  have c4291 := sf_mf tw4283 (p := 21) (j := 1) rfl
                                                  have c4292 := sf_mf tw4283 (p := 71) (j := 18) rfl
                                                  have c4293 := sf_mf tw4283 (p := 35) (j := 0) rfl
                                                  have c4294 := sf_mf tw4283 (p := 71) (j := 35) rfl
                                                  have c4295 := sf_ma tw4283 (p := 3) rfl
                                                  have c4296 := sf_ma tw4283 (p := 72) rfl
                                                  have c4297 := sf_mg tw4283 (p := 10) rfl
                                                  have c4298 := sf_ma tw4283 (p := 93) rfl
                                                  have c4299 := sf_mL tw4283 (p := 130) rfl
                                                  have c4300 := sf_ma tw4283 (p := 2) rfl
                                                  have c4301 := sf_ma tw4283 (p := 6) rfl
                                                  have c4302 := sf_ma tw4283 (p := 75) rfl
                                                  have c4303 := sf_ma tw4283 (p := 7) rfl
                                                  have c4304 := sf_ma tw4283 (p := 76) rfl
                                                  have c4305 := sf_ma tw4283 (p := 8) rfl
                                                  have c4306 := sf_ma tw4283 (p := 77) rfl
                                                  have c4307 := sf_ma tw4283 (p := 9) rfl
                                                  have c4308 := sf_ma tw4283 (p := 78) rfl
                                                  have c4309 := sf_ma tw4283 (p := 14) rfl
                                                  have c4310 := sf_ma tw4283 (p := 79) rfl
                                                  have c4311 := sf_ma tw4283 (p := 15) rfl
                                                  have c4312 := sf_ma tw4283 (p := 80) rfl
                                                  have c4313 := sf_ma tw4283 (p := 16) rfl
                                                  have c4314 := sf_ma tw4283 (p := 81) rfl
                                                  have c4315 := sf_ma tw4283 (p := 17) rfl
                                                  have c4316 := sf_ma tw4283 (p := 82) rfl
                                                  have c4317 := sf_ma tw4283 (p := 18) rfl
                                                  have c4318 := sf_ma tw4283 (p := 83) rfl
                                                  have c4319 := sf_ma tw4283 (p := 19) rfl
                                                  have c4320 := sf_ma tw4283 (p := 84) rfl
                                                  have c4321 := sf_ma tw4283 (p := 20) rfl
                                                  have c4322 := sf_ma tw4283 (p := 85) rfl
                                                  have c4323 := sf_ma tw4283 (p := 24) rfl
                                                  have c4324 := sf_ma tw4283 (p := 86) rfl
                                                  have c4325 := sf_ma tw4283 (p := 25) rfl
                                                  have c4326 := sf_ma tw4283 (p := 87) rfl
                                                  have c4327 := sf_ma tw4283 (p := 23) rfl
                                                  have c4328 := sf_ma tw4283 (p := 88) rfl
                                                  have c4329 := sf_ma tw4283 (p := 26) rfl
                                                  have c4330 := sf_ma tw4283 (p := 89) rfl
                                                  have c4331 := sf_ma tw4283 (p := 27) rfl
                                                  have c4332 := sf_ma tw4283 (p := 90) rfl
                                                  have c4333 := sf_ma tw4283 (p := 36) rfl
                                                  have c4334 := sf_ma tw4283 (p := 102) rfl
                                                  have c4335 := sf_ma tw4283 (p := 37) rfl
                                                  have c4336 := sf_ma tw4283 (p := 103) rfl
                                                  have c4337 := sf_mf tw4283 (p := 60) (j := 0) rfl
                                                  have c4338 := sf_ma tw4283 (p := 61) rfl
                                                  have c4339 := sf_ma tw4283 (p := 62) rfl
                                                  have c4340 := sf_ma tw4283 (p := 63) rfl
                                                  have c4341 := sf_ma tw4283 (p := 65) rfl
                                                  have c4342 := sf_ma tw4283 (p := 66) rfl
                                                  have c4343 := sf_mf tw4283 (p := 71) (j := 56) rfl
                                                  have c4344 := sf_ma tw4283 (p := 121) rfl
                                                  have c4345 := sf_ma tw4283 (p := 122) rfl
                                                  have c4346 := sf_ma tw4283 (p := 123) rfl
                                                  have c4347 := sf_ma tw4283 (p := 125) rfl
                                                  have c4348 := sf_ma tw4283 (p := 126) rfl
                                                  have c4349 := sf_ma tw4283 (p := 38) rfl
                                                  have c4350 := sf_ma tw4283 (p := 40) rfl
                                                  have c4351 := sf_ma tw4283 (p := 41) rfl
                                                  have c4352 := sf_ma tw4283 (p := 42) rfl
                                                  have c4353 := sf_ma tw4283 (p := 43) rfl
                                                  have c4354 := sf_ma tw4283 (p := 44) rfl
                                                  have c4355 := sf_ma tw4283 (p := 47) rfl
                                                  have c4356 := sf_ma tw4283 (p := 104) rfl
                                                  have c4357 := sf_ma tw4283 (p := 106) rfl
                                                  have c4358 := sf_ma tw4283 (p := 113) rfl
                                                  have c4359 := sf_ma tw4283 (p := 107) rfl
                                                  have c4360 := sf_ma tw4283 (p := 108) rfl
                                                  have c4361 := sf_ma tw4283 (p := 110) rfl
                                                  have c4362 := sf_ma tw4283 (p := 109) rfl
                                                  have c4363 := sf_mf tw4283 (p := 71) (j := 41) rfl
                                                  have c4364 := sf_ma tw4283 (p := 68) rfl
                                                  have c4365 := sf_ma tw4283 (p := 69) rfl
                                                  have c4366 := sf_ma tw4283 (p := 70) rfl
                                                  have c4367 := sf_ma tw4283 (p := 127) rfl
                                                  have c4368 := sf_ma tw4283 (p := 128) rfl
                                                  have c4369 := sf_ma tw4283 (p := 129) rfl
                                                  refine sf_lstore (L' := [(5, .inl (.int v4191)), (0, .inl (.ref 100000)), (1, .inl (.ref 0)), (2, .inl (.ref 71)), (3, .inl (.ref 130)), (4, .inl (.int x4))]) rfl ?_
                                                  show kt_W_law_1421 N xs K _ _ _ _ _
                                                  refine sf_iinc (L' := [(6, .inl (.long v4282)), (5, .inl (.int v4191)), (0, .inl (.ref 100000)), (1, .inl (.ref 0)), (2, .inl (.ref 71)), (3, .inl (.ref 130))]) (x := x4) sf_c8 rfl rfl (by omega) (fun v4370 ev4370 => ?_)
                                                  refine sf_can (L' := [(0, .inl (.ref 100000)), (1, .inl (.ref 0)), (2, .inl (.ref 71)), (3, .inl (.ref 130)), (4, .inl (.int v4370))]) rfl ?_
                                                  exact ih _ _ _ _ Iw4283 (by omega) (by omega) (by omega) (by omega) (by rw [c4285, c4194]; rw [c4286, c4195]; rw [c4287, c4196]; rw [c4288, c4197]; rw [c4289, c4198]; rw [c4290, c4199]; rw [c4291, c4200]; rw [c4292, c4201]; rw [c4293, c4202]; rw [c4294, c4203]; omega) (by rw [c4295, c4204]; rw [c4296, c4205]; rw [c4286, c4195]; first | exact f_1 | exact hJ) (by rw [c4297, c4206]; rw [c4298, c4207]; first | exact f_2 | exact hK2) (by rw [c4300, c4208]; rw [c4296, c4205]; rw [c4286, c4195]; first | exact f_3 | exact hQ2) (by rw [c4301, c4209]; rw [c4302, c4210]; rw [c4288, c4197]; first | exact f_4 | exact hQ6) (by rw [c4303, c4211]; rw [c4304, c4212]; rw [c4288, c4197]; first | exact f_5 | exact hQ7) (by rw [c4305, c4213]; rw [c4306, c4214]; rw [c4288, c4197]; first | exact f_6 | exact hQ8) (by rw [c4307, c4215]; rw [c4308, c4216]; rw [c4288, c4197]; first | exact f_7 | exact hQ9) (by rw [c4309, c4217]; rw [c4310, c4218]; rw [c4290, c4199]; first | exact f_8 | exact hQ14) (by rw [c4311, c4219]; rw [c4312, c4220]; rw [c4290, c4199]; first | exact f_9 | exact hQ15) (by rw [c4313, c4221]; rw [c4314, c4222]; rw [c4290, c4199]; first | exact f_10 | exact hQ16) (by rw [c4315, c4223]; rw [c4316, c4224]; rw [c4290, c4199]; first | exact f_11 | exact hQ17) (by rw [c4317, c4225]; rw [c4318, c4226]; rw [c4290, c4199]; first | exact f_12 | exact hQ18) (by rw [c4319, c4227]; rw [c4320, c4228]; rw [c4290, c4199]; first | exact f_13 | exact hQ19) (by rw [c4321, c4229]; rw [c4322, c4230]; rw [c4290, c4199]; first | exact f_14 | exact hQ20) (by rw [c4323, c4231]; rw [c4324, c4232]; rw [c4292, c4201]; first | exact f_15 | exact hQ24) (by rw [c4325, c4233]; rw [c4326, c4234]; rw [c4292, c4201]; first | exact f_16 | exact hQ25) (by rw [c4327, c4235]; rw [c4328, c4236]; rw [c4292, c4201]; first | exact f_17 | exact hQ23) (by rw [c4329, c4237]; rw [c4330, c4238]; rw [c4292, c4201]; first | exact f_18 | exact hQ26) (by rw [c4331, c4239]; rw [c4332, c4240]; rw [c4292, c4201]; first | exact f_19 | exact hQ27) (by rw [c4333, c4241]; rw [c4334, c4242]; rw [c4294, c4203]; first | exact f_20 | exact hQ36) (by rw [c4335, c4243]; rw [c4336, c4244]; rw [c4294, c4203]; first | exact f_21 | exact hQ37) (by rw [c4337, c4245]; rw [c4343, c4251]; rw [c4338, c4246]; rw [c4339, c4247]; rw [c4340, c4248]; rw [c4341, c4249]; rw [c4342, c4250]; rw [c4344, c4252]; rw [c4345, c4253]; rw [c4346, c4254]; rw [c4347, c4255]; rw [c4348, c4256]; exact f_22) (by rw [c4349, c4257]; rw [c4356, c4264]; rw [c4350, c4258]; rw [c4357, c4265]; rw [c4352, c4260]; rw [c4359, c4267]; rw [c4353, c4261]; rw [c4360, c4268]; rw [c4355, c4263]; rw [c4362, c4270]; rw [c4354, c4262]; rw [c4361, c4269]; exact f_23) (by rw [c4350, c4258]; rw [c4349, c4257]; rw [c4351, c4259]; rw [c4358, c4266]; exact f_24) (by rw [c4334, c4242]; rw [c4336, c4244]; rw [c4357, c4265]; rw [c4294, c4203]; rw [c4363, c4271]; exact f_25) (by rw [c4357, c4265]; rw [c4294, c4203]; exact f_26) (by rw [c4364, c4272]; rw [c4367, c4275]; rw [c4365, c4273]; rw [c4368, c4276]; rw [c4366, c4274]; rw [c4369, c4277]; exact f_27) (by omega)
                                                · clear h4186
                                                  refine sf_sw1 sf_c22 (fun h4371 => ?_) (fun h4371 => ?_)
                                                  · refine sf_aload rfl ?_
                                                    refine sf_aload rfl ?_
                                                    refine sf_iload rfl ?_
                                                    refine sf_iconst sf_c1 (fun z4372 ez4372 => ?_)
                                                    refine sf_iadd (by omega) (fun v4373 ev4373 => ?_)
                                                    refine sf_sldk (x := x4) (k := 1) (by omega) (by omega) (by omega) ?_
                                                    clear ev4373 ez4372
                                                    refine sf_aload rfl ?_
                                                    refine sf_iload rfl ?_
                                                    refine sf_iconst sf_c2 (fun z4374 ez4374 => ?_)
                                                    refine sf_iadd (by omega) (fun v4375 ev4375 => ?_)
                                                    refine sf_sldk (x := x4) (k := 2) (by omega) (by omega) (by omega) ?_
                                                    clear ev4375 ez4374
                                                    refine sf_aload rfl ?_
                                                    refine sf_callv4 rfl (by omega) (by omega) ?_
                                                    refine sc_W_account_0_130 I_w (by exact sl_Bq f_22.2.2.1 f_22.2.2.2.1 f_22.2.2.2.2.2.2.1) (fun v4376 w4377 Iw4377 tw4377 lv4376 uv4376 q4378_0 => ?_)
                                                    have c4379 := sf_mf tw4377 (p := 1) (j := 0) rfl
                                                    have c4380 := sf_mf tw4377 (p := 71) (j := 1) rfl
                                                    have c4381 := sf_mf tw4377 (p := 1) (j := 5) rfl
                                                    have c4382 := sf_mf tw4377 (p := 71) (j := 5) rfl
                                                    have c4383 := sf_mf tw4377 (p := 13) (j := 1) rfl
                                                    have c4384 := sf_mf tw4377 (p := 71) (j := 10) rfl
                                                    have c4385 := sf_mf tw4377 (p := 21) (j := 1) rfl
                                                    have c4386 := sf_mf tw4377 (p := 71) (j := 18) rfl
                                                    have c4387 := sf_mf tw4377 (p := 35) (j := 0) rfl
                                                    have c4388 := sf_mf tw4377 (p := 71) (j := 35) rfl
                                                    have c4389 := sf_ma tw4377 (p := 3) rfl
                                                    have c4390 := sf_ma tw4377 (p := 72) rfl
                                                    have c4391 := sf_mg tw4377 (p := 10) rfl
                                                    have c4392 := sf_ma tw4377 (p := 93) rfl
                                                    have c4393 := sf_ma tw4377 (p := 2) rfl
                                                    have c4394 := sf_ma tw4377 (p := 6) rfl
                                                    have c4395 := sf_ma tw4377 (p := 75) rfl
                                                    have c4396 := sf_ma tw4377 (p := 7) rfl
                                                    have c4397 := sf_ma tw4377 (p := 76) rfl
                                                    have c4398 := sf_ma tw4377 (p := 8) rfl
                                                    have c4399 := sf_ma tw4377 (p := 77) rfl
                                                    have c4400 := sf_ma tw4377 (p := 9) rfl
                                                    have c4401 := sf_ma tw4377 (p := 78) rfl
                                                    have c4402 := sf_ma tw4377 (p := 14) rfl
                                                    have c4403 := sf_ma tw4377 (p := 79) rfl
                                                    have c4404 := sf_ma tw4377 (p := 15) rfl
                                                    have c4405 := sf_ma tw4377 (p := 80) rfl
                                                    have c4406 := sf_ma tw4377 (p := 16) rfl
                                                    have c4407 := sf_ma tw4377 (p := 81) rfl
                                                    have c4408 := sf_ma tw4377 (p := 17) rfl
                                                    have c4409 := sf_ma tw4377 (p := 82) rfl
                                                    have c4410 := sf_ma tw4377 (p := 18) rfl
                                                    have c4411 := sf_ma tw4377 (p := 83) rfl
                                                    have c4412 := sf_ma tw4377 (p := 19) rfl
                                                    have c4413 := sf_ma tw4377 (p := 84) rfl
                                                    have c4414 := sf_ma tw4377 (p := 20) rfl
                                                    have c4415 := sf_ma tw4377 (p := 85) rfl
                                                    have c4416 := sf_ma tw4377 (p := 24) rfl
                                                    have c4417 := sf_ma tw4377 (p := 86) rfl
                                                    have c4418 := sf_ma tw4377 (p := 25) rfl
                                                    have c4419 := sf_ma tw4377 (p := 87) rfl
                                                    have c4420 := sf_ma tw4377 (p := 23) rfl
                                                    have c4421 := sf_ma tw4377 (p := 88) rfl
                                                    have c4422 := sf_ma tw4377 (p := 26) rfl
                                                    have c4423 := sf_ma tw4377 (p := 89) rfl
                                                    have c4424 := sf_ma tw4377 (p := 27) rfl
                                                    have c4425 := sf_ma tw4377 (p := 90) rfl
                                                    have c4426 := sf_ma tw4377 (p := 36) rfl
                                                    have c4427 := sf_ma tw4377 (p := 102) rfl
                                                    have c4428 := sf_ma tw4377 (p := 37) rfl
                                                    have c4429 := sf_ma tw4377 (p := 103) rfl
                                                    have c4430 := sf_mf tw4377 (p := 60) (j := 0) rfl
                                                    have c4431 := sf_ma tw4377 (p := 61) rfl
                                                    have c4432 := sf_ma tw4377 (p := 62) rfl
                                                    have c4433 := sf_ma tw4377 (p := 63) rfl
                                                    have c4434 := sf_ma tw4377 (p := 65) rfl
                                                    have c4435 := sf_ma tw4377 (p := 66) rfl
                                                    have c4436 := sf_mf tw4377 (p := 71) (j := 56) rfl
                                                    have c4437 := sf_ma tw4377 (p := 121) rfl
                                                    have c4438 := sf_ma tw4377 (p := 122) rfl
                                                    have c4439 := sf_ma tw4377 (p := 123) rfl
                                                    have c4440 := sf_ma tw4377 (p := 125) rfl
                                                    have c4441 := sf_ma tw4377 (p := 126) rfl
                                                    have c4442 := sf_ma tw4377 (p := 38) rfl
                                                    have c4443 := sf_ma tw4377 (p := 40) rfl
                                                    have c4444 := sf_ma tw4377 (p := 41) rfl
                                                    have c4445 := sf_ma tw4377 (p := 42) rfl
                                                    have c4446 := sf_ma tw4377 (p := 43) rfl
                                                    have c4447 := sf_ma tw4377 (p := 44) rfl
                                                    have c4448 := sf_ma tw4377 (p := 47) rfl
                                                    have c4449 := sf_ma tw4377 (p := 104) rfl
                                                    have c4450 := sf_ma tw4377 (p := 106) rfl
                                                    have c4451 := sf_ma tw4377 (p := 113) rfl
                                                    have c4452 := sf_ma tw4377 (p := 107) rfl
                                                    have c4453 := sf_ma tw4377 (p := 108) rfl
                                                    have c4454 := sf_ma tw4377 (p := 110) rfl
                                                    have c4455 := sf_ma tw4377 (p := 109) rfl
                                                    have c4456 := sf_mf tw4377 (p := 71) (j := 41) rfl
                                                    have c4457 := sf_ma tw4377 (p := 68) rfl
                                                    have c4458 := sf_ma tw4377 (p := 69) rfl
                                                    have c4459 := sf_ma tw4377 (p := 70) rfl
                                                    have c4460 := sf_ma tw4377 (p := 127) rfl
                                                    have c4461 := sf_ma tw4377 (p := 128) rfl
                                                    have c4462 := sf_ma tw4377 (p := 129) rfl
                                                    have F0 := q4378_0
                                                    clear q4378_0
                                                    refine sf_istore (L' := [(0, .inl (.ref 100000)), (1, .inl (.ref 0)), (2, .inl (.ref 71)), (3, .inl (.ref 130)), (4, .inl (.int x4))]) rfl ?_
                                                    refine sf_aload rfl ?_
                                                    refine sf_aload rfl ?_
                                                    refine sf_iload rfl ?_
                                                    refine sf_iconst sf_c1 (fun z4463 ez4463 => ?_)
                                                    refine sf_iadd (by omega) (fun v4464 ev4464 => ?_)
                                                    refine sf_sldk (x := x4) (k := 1) (by omega) (by omega) (by omega) ?_
                                                    clear ev4464 ez4463
                                                    refine sf_aload rfl ?_
                                                    refine sf_iload rfl ?_
                                                    refine sf_iconst sf_c2 (fun z4465 ez4465 => ?_)
                                                    refine sf_iadd (by omega) (fun v4466 ev4466 => ?_)
                                                    refine sf_sldk (x := x4) (k := 2) (by omega) (by omega) (by omega) ?_
                                                    clear ev4466 ez4465
                                                    refine sf_callv3 rfl (by omega) (by omega) ?_
                                                    refine sf_rv Iw4377 rfl ?_
                                                    refine sc_M_account Iw4377 (by rw [c4438]; rw [c4439]; exact f_22.2.2.2.2.2.2.1) (fun v4467 w4468 Iw4468 tw4468 q4469_0 => ?_)
                                                    rw [c4437] at q4469_0
                                                    rw [c4438] at q4469_0
                                                    rw [c4439] at q4469_0
                                                    rw [c4440] at q4469_0
                                                    rw [c4441] at q4469_0
                                                    rw [c4460] at q4469_0
                                                    rw [c4461] at q4469_0
                                                    rw [c4462] at q4469_0
                                                    rw [c4436] at q4469_0
                                                    have c4470 := sf_mf tw4468 (p := 1) (j := 0) rfl
                                                    have c4471 := sf_mf tw4468 (p := 71) (j := 1) rfl
                                                    have c4472 := sf_mf tw4468 (p := 1) (j := 5) rfl
                                                    have c4473 := sf_mf tw4468 (p := 71) (j := 5) rfl
                                                    have c4474 := sf_mf tw4468 (p := 13) (j := 1) rfl
                                                    have c4475 := sf_mf tw4468 (p := 71) (j := 10) rfl
                                                    have c4476 := sf_mf tw4468 (p := 21) (j := 1) rfl
                                                    have c4477 := sf_mf tw4468 (p := 71) (j := 18) rfl
                                                    have c4478 := sf_mf tw4468 (p := 35) (j := 0) rfl
                                                    have c4479 := sf_mf tw4468 (p := 71) (j := 35) rfl
                                                    have c4480 := sf_ma tw4468 (p := 3) rfl
                                                    have c4481 := sf_ma tw4468 (p := 72) rfl
                                                    have c4482 := sf_mg tw4468 (p := 10) rfl
                                                    have c4483 := sf_ma tw4468 (p := 93) rfl
                                                    have c4484 := sf_mL tw4468 (p := 130) rfl
                                                    have c4485 := sf_ma tw4468 (p := 2) rfl
                                                    have c4486 := sf_ma tw4468 (p := 6) rfl
                                                    have c4487 := sf_ma tw4468 (p := 75) rfl
                                                    have c4488 := sf_ma tw4468 (p := 7) rfl
                                                    have c4489 := sf_ma tw4468 (p := 76) rfl
                                                    have c4490 := sf_ma tw4468 (p := 8) rfl
                                                    have c4491 := sf_ma tw4468 (p := 77) rfl
                                                    have c4492 := sf_ma tw4468 (p := 9) rfl
                                                    have c4493 := sf_ma tw4468 (p := 78) rfl
                                                    have c4494 := sf_ma tw4468 (p := 14) rfl
                                                    have c4495 := sf_ma tw4468 (p := 79) rfl
                                                    have c4496 := sf_ma tw4468 (p := 15) rfl
                                                    have c4497 := sf_ma tw4468 (p := 80) rfl
                                                    have c4498 := sf_ma tw4468 (p := 16) rfl
                                                    have c4499 := sf_ma tw4468 (p := 81) rfl
                                                    have c4500 := sf_ma tw4468 (p := 17) rfl
                                                    have c4501 := sf_ma tw4468 (p := 82) rfl
                                                    have c4502 := sf_ma tw4468 (p := 18) rfl
                                                    have c4503 := sf_ma tw4468 (p := 83) rfl
                                                    have c4504 := sf_ma tw4468 (p := 19) rfl
                                                    have c4505 := sf_ma tw4468 (p := 84) rfl
                                                    have c4506 := sf_ma tw4468 (p := 20) rfl
                                                    have c4507 := sf_ma tw4468 (p := 85) rfl
                                                    have c4508 := sf_ma tw4468 (p := 24) rfl
                                                    have c4509 := sf_ma tw4468 (p := 86) rfl
                                                    have c4510 := sf_ma tw4468 (p := 25) rfl
                                                    have c4511 := sf_ma tw4468 (p := 87) rfl
                                                    have c4512 := sf_ma tw4468 (p := 23) rfl
                                                    have c4513 := sf_ma tw4468 (p := 88) rfl
                                                    have c4514 := sf_ma tw4468 (p := 26) rfl
                                                    have c4515 := sf_ma tw4468 (p := 89) rfl
                                                    have c4516 := sf_ma tw4468 (p := 27) rfl
                                                    have c4517 := sf_ma tw4468 (p := 90) rfl
                                                    have c4518 := sf_ma tw4468 (p := 36) rfl
                                                    have c4519 := sf_ma tw4468 (p := 102) rfl
                                                    have c4520 := sf_ma tw4468 (p := 37) rfl
                                                    have c4521 := sf_ma tw4468 (p := 103) rfl
                                                    have c4522 := sf_mf tw4468 (p := 60) (j := 0) rfl
                                                    have c4523 := sf_ma tw4468 (p := 61) rfl
                                                    have c4524 := sf_ma tw4468 (p := 62) rfl
                                                    have c4525 := sf_ma tw4468 (p := 63) rfl
                                                    have c4526 := sf_ma tw4468 (p := 65) rfl
                                                    have c4527 := sf_ma tw4468 (p := 66) rfl
                                                    have c4528 := sf_mf tw4468 (p := 71) (j := 56) rfl
                                                    have c4529 := sf_ma tw4468 (p := 121) rfl
                                                    have c4530 := sf_ma tw4468 (p := 122) rfl
                                                    have c4531 := sf_ma tw4468 (p := 123) rfl
                                                    have c4532 := sf_ma tw4468 (p := 125) rfl
                                                    have c4533 := sf_ma tw4468 (p := 126) rfl
                                                    have c4534 := sf_ma tw4468 (p := 38) rfl
                                                    have c4535 := sf_ma tw4468 (p := 40) rfl
                                                    have c4536 := sf_ma tw4468 (p := 41) rfl
                                                    have c4537 := sf_ma tw4468 (p := 42) rfl
                                                    have c4538 := sf_ma tw4468 (p := 43) rfl
                                                    have c4539 := sf_ma tw4468 (p := 44) rfl
                                                    have c4540 := sf_ma tw4468 (p := 47) rfl
                                                    have c4541 := sf_ma tw4468 (p := 104) rfl
                                                    have c4542 := sf_ma tw4468 (p := 106) rfl
                                                    have c4543 := sf_ma tw4468 (p := 113) rfl
                                                    have c4544 := sf_ma tw4468 (p := 107) rfl
                                                    have c4545 := sf_ma tw4468 (p := 108) rfl
                                                    have c4546 := sf_ma tw4468 (p := 110) rfl
                                                    have c4547 := sf_ma tw4468 (p := 109) rfl
                                                    have c4548 := sf_mf tw4468 (p := 71) (j := 41) rfl
                                                    have c4549 := sf_ma tw4468 (p := 68) rfl
                                                    have c4550 := sf_ma tw4468 (p := 69) rfl
                                                    have c4551 := sf_ma tw4468 (p := 70) rfl
                                                    have c4552 := sf_ma tw4468 (p := 127) rfl
                                                    have c4553 := sf_ma tw4468 (p := 128) rfl
                                                    have c4554 := sf_ma tw4468 (p := 129) rfl
                                                    have G0 := q4469_0
                                                    clear q4469_0
                                                    have b40 := (sf_fb I_w (p := 71) (ci := 9) (j := 56) rfl rfl)
                                                    have hSS := sl_SE f_22 (x := (xs (x4.toInt.toNat + 1)).toInt) (x' := (xs (x4.toInt.toNat + 1)).toInt) (y := 1) (y' := 1) b40.2 rfl rfl
                                                    have hC0 := sl_CE f_22 (x := (xs (x4.toInt.toNat + 1)).toInt) (x' := (xs (x4.toInt.toNat + 1)).toInt) (y := 0) (y' := 0) b40.2 rfl rfl
                                                    have hC1 := sl_CE f_22 (x := (xs (x4.toInt.toNat + 1)).toInt) (x' := (xs (x4.toInt.toNat + 1)).toInt) (y := 1) (y' := 1) b40.2 rfl rfl
                                                    have hg1 : 0 ≤ (xs (x4.toInt.toNat + 1)).toInt → (xs (x4.toInt.toNat + 1)).toInt ≤ 15 → (sf_a w 68 (xs (x4.toInt.toNat + 1)).toInt.toNat).toInt = (sf_a w 127 (xs (x4.toInt.toNat + 1)).toInt.toNat).toInt := fun h1 h2 => by rw [f_27.1 _ (by omega)]
                                                    have hg2 : 0 ≤ (xs (x4.toInt.toNat + 1)).toInt → (xs (x4.toInt.toNat + 1)).toInt ≤ 15 → (sf_a w 69 (xs (x4.toInt.toNat + 1)).toInt.toNat).toInt = (sf_a w 128 (xs (x4.toInt.toNat + 1)).toInt.toNat).toInt := fun h1 h2 => by rw [f_27.2.1 _ (by omega)]
                                                    have hg3 : 0 ≤ (xs (x4.toInt.toNat + 1)).toInt → (xs (x4.toInt.toNat + 1)).toInt ≤ 15 → (sf_a w 70 (xs (x4.toInt.toNat + 1)).toInt.toNat).toInt = (sf_a w 129 (xs (x4.toInt.toNat + 1)).toInt.toNat).toInt := fun h1 h2 => by rw [f_27.2.2 _ (by omega)]
                                                    refine sf_lstore (L' := [(5, .inl (.int v4376)), (0, .inl (.ref 100000)), (1, .inl (.ref 0)), (2, .inl (.ref 71)), (3, .inl (.ref 130)), (4, .inl (.int x4))]) rfl ?_
                                                    show kt_W_law_1421 N xs K _ _ _ _ _
                                                    refine sf_iinc (L' := [(6, .inl (.long v4467)), (5, .inl (.int v4376)), (0, .inl (.ref 100000)), (1, .inl (.ref 0)), (2, .inl (.ref 71)), (3, .inl (.ref 130))]) (x := x4) sf_c8 rfl rfl (by omega) (fun v4555 ev4555 => ?_)
                                                    refine sf_can (L' := [(0, .inl (.ref 100000)), (1, .inl (.ref 0)), (2, .inl (.ref 71)), (3, .inl (.ref 130)), (4, .inl (.int v4555))]) rfl ?_
                                                    exact ih _ _ _ _ Iw4468 (by omega) (by omega) (by omega) (by omega) (by rw [c4470, c4379]; rw [c4471, c4380]; rw [c4472, c4381]; rw [c4473, c4382]; rw [c4474, c4383]; rw [c4475, c4384]; rw [c4476, c4385]; rw [c4477, c4386]; rw [c4478, c4387]; rw [c4479, c4388]; omega) (by rw [c4480, c4389]; rw [c4481, c4390]; rw [c4471, c4380]; first | exact f_1 | exact hJ) (by rw [c4482, c4391]; rw [c4483, c4392]; first | exact f_2 | exact hK2) (by rw [c4485, c4393]; rw [c4481, c4390]; rw [c4471, c4380]; first | exact f_3 | exact hQ2) (by rw [c4486, c4394]; rw [c4487, c4395]; rw [c4473, c4382]; first | exact f_4 | exact hQ6) (by rw [c4488, c4396]; rw [c4489, c4397]; rw [c4473, c4382]; first | exact f_5 | exact hQ7) (by rw [c4490, c4398]; rw [c4491, c4399]; rw [c4473, c4382]; first | exact f_6 | exact hQ8) (by rw [c4492, c4400]; rw [c4493, c4401]; rw [c4473, c4382]; first | exact f_7 | exact hQ9) (by rw [c4494, c4402]; rw [c4495, c4403]; rw [c4475, c4384]; first | exact f_8 | exact hQ14) (by rw [c4496, c4404]; rw [c4497, c4405]; rw [c4475, c4384]; first | exact f_9 | exact hQ15) (by rw [c4498, c4406]; rw [c4499, c4407]; rw [c4475, c4384]; first | exact f_10 | exact hQ16) (by rw [c4500, c4408]; rw [c4501, c4409]; rw [c4475, c4384]; first | exact f_11 | exact hQ17) (by rw [c4502, c4410]; rw [c4503, c4411]; rw [c4475, c4384]; first | exact f_12 | exact hQ18) (by rw [c4504, c4412]; rw [c4505, c4413]; rw [c4475, c4384]; first | exact f_13 | exact hQ19) (by rw [c4506, c4414]; rw [c4507, c4415]; rw [c4475, c4384]; first | exact f_14 | exact hQ20) (by rw [c4508, c4416]; rw [c4509, c4417]; rw [c4477, c4386]; first | exact f_15 | exact hQ24) (by rw [c4510, c4418]; rw [c4511, c4419]; rw [c4477, c4386]; first | exact f_16 | exact hQ25) (by rw [c4512, c4420]; rw [c4513, c4421]; rw [c4477, c4386]; first | exact f_17 | exact hQ23) (by rw [c4514, c4422]; rw [c4515, c4423]; rw [c4477, c4386]; first | exact f_18 | exact hQ26) (by rw [c4516, c4424]; rw [c4517, c4425]; rw [c4477, c4386]; first | exact f_19 | exact hQ27) (by rw [c4518, c4426]; rw [c4519, c4427]; rw [c4479, c4388]; first | exact f_20 | exact hQ36) (by rw [c4520, c4428]; rw [c4521, c4429]; rw [c4479, c4388]; first | exact f_21 | exact hQ37) (by rw [c4522, c4430]; rw [c4528, c4436]; rw [c4523, c4431]; rw [c4524, c4432]; rw [c4525, c4433]; rw [c4526, c4434]; rw [c4527, c4435]; rw [c4529, c4437]; rw [c4530, c4438]; rw [c4531, c4439]; rw [c4532, c4440]; rw [c4533, c4441]; exact f_22) (by rw [c4534, c4442]; rw [c4541, c4449]; rw [c4535, c4443]; rw [c4542, c4450]; rw [c4537, c4445]; rw [c4544, c4452]; rw [c4538, c4446]; rw [c4545, c4453]; rw [c4540, c4448]; rw [c4547, c4455]; rw [c4539, c4447]; rw [c4546, c4454]; exact f_23) (by rw [c4535, c4443]; rw [c4534, c4442]; rw [c4536, c4444]; rw [c4543, c4451]; exact f_24) (by rw [c4519, c4427]; rw [c4521, c4429]; rw [c4542, c4450]; rw [c4479, c4388]; rw [c4548, c4456]; exact f_25) (by rw [c4542, c4450]; rw [c4479, c4388]; exact f_26) (by rw [c4549, c4457]; rw [c4552, c4460]; rw [c4550, c4458]; rw [c4553, c4461]; rw [c4551, c4459]; rw [c4554, c4462]; exact f_27) (by omega)
                                                  · clear h4371
                                                    refine sf_sw1 sf_c23 (fun h4556 => ?_) (fun h4556 => ?_)
                                                    · refine sf_aload rfl ?_
                                                      refine sf_aload rfl ?_
                                                      refine sf_iload rfl ?_
                                                      refine sf_iconst sf_c1 (fun z4557 ez4557 => ?_)
                                                      refine sf_iadd (by omega) (fun v4558 ev4558 => ?_)
                                                      refine sf_sldk (x := x4) (k := 1) (by omega) (by omega) (by omega) ?_
                                                      clear ev4558 ez4557
                                                      refine sf_aload rfl ?_
                                                      refine sf_callv3 rfl (by omega) (by omega) ?_
                                                      refine sc_W_books_0_130 I_w  (fun v4559 w4560 Iw4560 tw4560 lv4559 uv4559 => ?_)
                                                      have c4562 := sf_mf tw4560 (p := 1) (j := 0) rfl
                                                      have c4563 := sf_mf tw4560 (p := 71) (j := 1) rfl
                                                      have c4564 := sf_mf tw4560 (p := 1) (j := 5) rfl
                                                      have c4565 := sf_mf tw4560 (p := 71) (j := 5) rfl
                                                      have c4566 := sf_mf tw4560 (p := 13) (j := 1) rfl
                                                      have c4567 := sf_mf tw4560 (p := 71) (j := 10) rfl
                                                      have c4568 := sf_mf tw4560 (p := 21) (j := 1) rfl
                                                      have c4569 := sf_mf tw4560 (p := 71) (j := 18) rfl
                                                      have c4570 := sf_mf tw4560 (p := 35) (j := 0) rfl
                                                      have c4571 := sf_mf tw4560 (p := 71) (j := 35) rfl
                                                      have c4572 := sf_ma tw4560 (p := 3) rfl
                                                      have c4573 := sf_ma tw4560 (p := 72) rfl
                                                      have c4574 := sf_mg tw4560 (p := 10) rfl
                                                      have c4575 := sf_ma tw4560 (p := 93) rfl
                                                      have c4576 := sf_ma tw4560 (p := 2) rfl
                                                      have c4577 := sf_ma tw4560 (p := 6) rfl
                                                      have c4578 := sf_ma tw4560 (p := 75) rfl
                                                      have c4579 := sf_ma tw4560 (p := 7) rfl
                                                      have c4580 := sf_ma tw4560 (p := 76) rfl
                                                      have c4581 := sf_ma tw4560 (p := 8) rfl
                                                      have c4582 := sf_ma tw4560 (p := 77) rfl
                                                      have c4583 := sf_ma tw4560 (p := 9) rfl
                                                      have c4584 := sf_ma tw4560 (p := 78) rfl
                                                      have c4585 := sf_ma tw4560 (p := 14) rfl
                                                      have c4586 := sf_ma tw4560 (p := 79) rfl
                                                      have c4587 := sf_ma tw4560 (p := 15) rfl
                                                      have c4588 := sf_ma tw4560 (p := 80) rfl
                                                      have c4589 := sf_ma tw4560 (p := 16) rfl
                                                      have c4590 := sf_ma tw4560 (p := 81) rfl
                                                      have c4591 := sf_ma tw4560 (p := 17) rfl
                                                      have c4592 := sf_ma tw4560 (p := 82) rfl
                                                      have c4593 := sf_ma tw4560 (p := 18) rfl
                                                      have c4594 := sf_ma tw4560 (p := 83) rfl
                                                      have c4595 := sf_ma tw4560 (p := 19) rfl
                                                      have c4596 := sf_ma tw4560 (p := 84) rfl
                                                      have c4597 := sf_ma tw4560 (p := 20) rfl
                                                      have c4598 := sf_ma tw4560 (p := 85) rfl
                                                      have c4599 := sf_ma tw4560 (p := 24) rfl
                                                      have c4600 := sf_ma tw4560 (p := 86) rfl
                                                      have c4601 := sf_ma tw4560 (p := 25) rfl
                                                      have c4602 := sf_ma tw4560 (p := 87) rfl
                                                      have c4603 := sf_ma tw4560 (p := 23) rfl
                                                      have c4604 := sf_ma tw4560 (p := 88) rfl
                                                      have c4605 := sf_ma tw4560 (p := 26) rfl
                                                      have c4606 := sf_ma tw4560 (p := 89) rfl
                                                      have c4607 := sf_ma tw4560 (p := 27) rfl
                                                      have c4608 := sf_ma tw4560 (p := 90) rfl
                                                      have c4609 := sf_ma tw4560 (p := 36) rfl
                                                      have c4610 := sf_ma tw4560 (p := 102) rfl
                                                      have c4611 := sf_ma tw4560 (p := 37) rfl
                                                      have c4612 := sf_ma tw4560 (p := 103) rfl
                                                      have c4613 := sf_mf tw4560 (p := 60) (j := 0) rfl
                                                      have c4614 := sf_ma tw4560 (p := 61) rfl
                                                      have c4615 := sf_ma tw4560 (p := 62) rfl
                                                      have c4616 := sf_ma tw4560 (p := 63) rfl
                                                      have c4617 := sf_ma tw4560 (p := 65) rfl
                                                      have c4618 := sf_ma tw4560 (p := 66) rfl
                                                      have c4619 := sf_mf tw4560 (p := 71) (j := 56) rfl
                                                      have c4620 := sf_ma tw4560 (p := 121) rfl
                                                      have c4621 := sf_ma tw4560 (p := 122) rfl
                                                      have c4622 := sf_ma tw4560 (p := 123) rfl
                                                      have c4623 := sf_ma tw4560 (p := 125) rfl
                                                      have c4624 := sf_ma tw4560 (p := 126) rfl
                                                      have c4625 := sf_ma tw4560 (p := 38) rfl
                                                      have c4626 := sf_ma tw4560 (p := 40) rfl
                                                      have c4627 := sf_ma tw4560 (p := 41) rfl
                                                      have c4628 := sf_ma tw4560 (p := 42) rfl
                                                      have c4629 := sf_ma tw4560 (p := 43) rfl
                                                      have c4630 := sf_ma tw4560 (p := 44) rfl
                                                      have c4631 := sf_ma tw4560 (p := 47) rfl
                                                      have c4632 := sf_ma tw4560 (p := 104) rfl
                                                      have c4633 := sf_ma tw4560 (p := 106) rfl
                                                      have c4634 := sf_ma tw4560 (p := 113) rfl
                                                      have c4635 := sf_ma tw4560 (p := 107) rfl
                                                      have c4636 := sf_ma tw4560 (p := 108) rfl
                                                      have c4637 := sf_ma tw4560 (p := 110) rfl
                                                      have c4638 := sf_ma tw4560 (p := 109) rfl
                                                      have c4639 := sf_mf tw4560 (p := 71) (j := 41) rfl
                                                      have c4640 := sf_ma tw4560 (p := 68) rfl
                                                      have c4641 := sf_ma tw4560 (p := 69) rfl
                                                      have c4642 := sf_ma tw4560 (p := 70) rfl
                                                      have c4643 := sf_ma tw4560 (p := 127) rfl
                                                      have c4644 := sf_ma tw4560 (p := 128) rfl
                                                      have c4645 := sf_ma tw4560 (p := 129) rfl
                                                      refine sf_istore (L' := [(0, .inl (.ref 100000)), (1, .inl (.ref 0)), (2, .inl (.ref 71)), (3, .inl (.ref 130)), (4, .inl (.int x4))]) rfl ?_
                                                      refine sf_aload rfl ?_
                                                      refine sf_aload rfl ?_
                                                      refine sf_iload rfl ?_
                                                      refine sf_iconst sf_c1 (fun z4646 ez4646 => ?_)
                                                      refine sf_iadd (by omega) (fun v4647 ev4647 => ?_)
                                                      refine sf_sldk (x := x4) (k := 1) (by omega) (by omega) (by omega) ?_
                                                      clear ev4647 ez4646
                                                      refine sf_callv2 rfl (by omega) (by omega) ?_
                                                      refine sf_rv Iw4560 rfl ?_
                                                      refine sc_M_books Iw4560  (fun v4648 w4649 Iw4649 tw4649 => ?_)
                                                      have c4651 := sf_mf tw4649 (p := 1) (j := 0) rfl
                                                      have c4652 := sf_mf tw4649 (p := 71) (j := 1) rfl
                                                      have c4653 := sf_mf tw4649 (p := 1) (j := 5) rfl
                                                      have c4654 := sf_mf tw4649 (p := 71) (j := 5) rfl
                                                      have c4655 := sf_mf tw4649 (p := 13) (j := 1) rfl
                                                      have c4656 := sf_mf tw4649 (p := 71) (j := 10) rfl
                                                      have c4657 := sf_mf tw4649 (p := 21) (j := 1) rfl
                                                      have c4658 := sf_mf tw4649 (p := 71) (j := 18) rfl
                                                      have c4659 := sf_mf tw4649 (p := 35) (j := 0) rfl
                                                      have c4660 := sf_mf tw4649 (p := 71) (j := 35) rfl
                                                      have c4661 := sf_ma tw4649 (p := 3) rfl
                                                      have c4662 := sf_ma tw4649 (p := 72) rfl
                                                      have c4663 := sf_mg tw4649 (p := 10) rfl
                                                      have c4664 := sf_ma tw4649 (p := 93) rfl
                                                      have c4665 := sf_mL tw4649 (p := 130) rfl
                                                      have c4666 := sf_ma tw4649 (p := 2) rfl
                                                      have c4667 := sf_ma tw4649 (p := 6) rfl
                                                      have c4668 := sf_ma tw4649 (p := 75) rfl
                                                      have c4669 := sf_ma tw4649 (p := 7) rfl
                                                      have c4670 := sf_ma tw4649 (p := 76) rfl
                                                      have c4671 := sf_ma tw4649 (p := 8) rfl
                                                      have c4672 := sf_ma tw4649 (p := 77) rfl
                                                      have c4673 := sf_ma tw4649 (p := 9) rfl
                                                      have c4674 := sf_ma tw4649 (p := 78) rfl
                                                      have c4675 := sf_ma tw4649 (p := 14) rfl
                                                      have c4676 := sf_ma tw4649 (p := 79) rfl
                                                      have c4677 := sf_ma tw4649 (p := 15) rfl
                                                      have c4678 := sf_ma tw4649 (p := 80) rfl
                                                      have c4679 := sf_ma tw4649 (p := 16) rfl
                                                      have c4680 := sf_ma tw4649 (p := 81) rfl
                                                      have c4681 := sf_ma tw4649 (p := 17) rfl
                                                      have c4682 := sf_ma tw4649 (p := 82) rfl
                                                      have c4683 := sf_ma tw4649 (p := 18) rfl
                                                      have c4684 := sf_ma tw4649 (p := 83) rfl
                                                      have c4685 := sf_ma tw4649 (p := 19) rfl
                                                      have c4686 := sf_ma tw4649 (p := 84) rfl
                                                      have c4687 := sf_ma tw4649 (p := 20) rfl
                                                      have c4688 := sf_ma tw4649 (p := 85) rfl
                                                      have c4689 := sf_ma tw4649 (p := 24) rfl
                                                      have c4690 := sf_ma tw4649 (p := 86) rfl
                                                      have c4691 := sf_ma tw4649 (p := 25) rfl
                                                      have c4692 := sf_ma tw4649 (p := 87) rfl
                                                      have c4693 := sf_ma tw4649 (p := 23) rfl
                                                      have c4694 := sf_ma tw4649 (p := 88) rfl
                                                      have c4695 := sf_ma tw4649 (p := 26) rfl
                                                      have c4696 := sf_ma tw4649 (p := 89) rfl
                                                      have c4697 := sf_ma tw4649 (p := 27) rfl
                                                      have c4698 := sf_ma tw4649 (p := 90) rfl
                                                      have c4699 := sf_ma tw4649 (p := 36) rfl
                                                      have c4700 := sf_ma tw4649 (p := 102) rfl
                                                      have c4701 := sf_ma tw4649 (p := 37) rfl
                                                      have c4702 := sf_ma tw4649 (p := 103) rfl
                                                      have c4703 := sf_mf tw4649 (p := 60) (j := 0) rfl
                                                      have c4704 := sf_ma tw4649 (p := 61) rfl
                                                      have c4705 := sf_ma tw4649 (p := 62) rfl
                                                      have c4706 := sf_ma tw4649 (p := 63) rfl
                                                      have c4707 := sf_ma tw4649 (p := 65) rfl
                                                      have c4708 := sf_ma tw4649 (p := 66) rfl
                                                      have c4709 := sf_mf tw4649 (p := 71) (j := 56) rfl
                                                      have c4710 := sf_ma tw4649 (p := 121) rfl
                                                      have c4711 := sf_ma tw4649 (p := 122) rfl
                                                      have c4712 := sf_ma tw4649 (p := 123) rfl
                                                      have c4713 := sf_ma tw4649 (p := 125) rfl
                                                      have c4714 := sf_ma tw4649 (p := 126) rfl
                                                      have c4715 := sf_ma tw4649 (p := 38) rfl
                                                      have c4716 := sf_ma tw4649 (p := 40) rfl
                                                      have c4717 := sf_ma tw4649 (p := 41) rfl
                                                      have c4718 := sf_ma tw4649 (p := 42) rfl
                                                      have c4719 := sf_ma tw4649 (p := 43) rfl
                                                      have c4720 := sf_ma tw4649 (p := 44) rfl
                                                      have c4721 := sf_ma tw4649 (p := 47) rfl
                                                      have c4722 := sf_ma tw4649 (p := 104) rfl
                                                      have c4723 := sf_ma tw4649 (p := 106) rfl
                                                      have c4724 := sf_ma tw4649 (p := 113) rfl
                                                      have c4725 := sf_ma tw4649 (p := 107) rfl
                                                      have c4726 := sf_ma tw4649 (p := 108) rfl
                                                      have c4727 := sf_ma tw4649 (p := 110) rfl
                                                      have c4728 := sf_ma tw4649 (p := 109) rfl
                                                      have c4729 := sf_mf tw4649 (p := 71) (j := 41) rfl
                                                      have c4730 := sf_ma tw4649 (p := 68) rfl
                                                      have c4731 := sf_ma tw4649 (p := 69) rfl
                                                      have c4732 := sf_ma tw4649 (p := 70) rfl
                                                      have c4733 := sf_ma tw4649 (p := 127) rfl
                                                      have c4734 := sf_ma tw4649 (p := 128) rfl
                                                      have c4735 := sf_ma tw4649 (p := 129) rfl
                                                      refine sf_lstore (L' := [(5, .inl (.int v4559)), (0, .inl (.ref 100000)), (1, .inl (.ref 0)), (2, .inl (.ref 71)), (3, .inl (.ref 130)), (4, .inl (.int x4))]) rfl ?_
                                                      show kt_W_law_1421 N xs K _ _ _ _ _
                                                      refine sf_iinc (L' := [(6, .inl (.long v4648)), (5, .inl (.int v4559)), (0, .inl (.ref 100000)), (1, .inl (.ref 0)), (2, .inl (.ref 71)), (3, .inl (.ref 130))]) (x := x4) sf_c8 rfl rfl (by omega) (fun v4736 ev4736 => ?_)
                                                      refine sf_can (L' := [(0, .inl (.ref 100000)), (1, .inl (.ref 0)), (2, .inl (.ref 71)), (3, .inl (.ref 130)), (4, .inl (.int v4736))]) rfl ?_
                                                      exact ih _ _ _ _ Iw4649 (by omega) (by omega) (by omega) (by omega) (by rw [c4651, c4562]; rw [c4652, c4563]; rw [c4653, c4564]; rw [c4654, c4565]; rw [c4655, c4566]; rw [c4656, c4567]; rw [c4657, c4568]; rw [c4658, c4569]; rw [c4659, c4570]; rw [c4660, c4571]; omega) (by rw [c4661, c4572]; rw [c4662, c4573]; rw [c4652, c4563]; first | exact f_1 | exact hJ) (by rw [c4663, c4574]; rw [c4664, c4575]; first | exact f_2 | exact hK2) (by rw [c4666, c4576]; rw [c4662, c4573]; rw [c4652, c4563]; first | exact f_3 | exact hQ2) (by rw [c4667, c4577]; rw [c4668, c4578]; rw [c4654, c4565]; first | exact f_4 | exact hQ6) (by rw [c4669, c4579]; rw [c4670, c4580]; rw [c4654, c4565]; first | exact f_5 | exact hQ7) (by rw [c4671, c4581]; rw [c4672, c4582]; rw [c4654, c4565]; first | exact f_6 | exact hQ8) (by rw [c4673, c4583]; rw [c4674, c4584]; rw [c4654, c4565]; first | exact f_7 | exact hQ9) (by rw [c4675, c4585]; rw [c4676, c4586]; rw [c4656, c4567]; first | exact f_8 | exact hQ14) (by rw [c4677, c4587]; rw [c4678, c4588]; rw [c4656, c4567]; first | exact f_9 | exact hQ15) (by rw [c4679, c4589]; rw [c4680, c4590]; rw [c4656, c4567]; first | exact f_10 | exact hQ16) (by rw [c4681, c4591]; rw [c4682, c4592]; rw [c4656, c4567]; first | exact f_11 | exact hQ17) (by rw [c4683, c4593]; rw [c4684, c4594]; rw [c4656, c4567]; first | exact f_12 | exact hQ18) (by rw [c4685, c4595]; rw [c4686, c4596]; rw [c4656, c4567]; first | exact f_13 | exact hQ19) (by rw [c4687, c4597]; rw [c4688, c4598]; rw [c4656, c4567]; first | exact f_14 | exact hQ20) (by rw [c4689, c4599]; rw [c4690, c4600]; rw [c4658, c4569]; first | exact f_15 | exact hQ24) (by rw [c4691, c4601]; rw [c4692, c4602]; rw [c4658, c4569]; first | exact f_16 | exact hQ25) (by rw [c4693, c4603]; rw [c4694, c4604]; rw [c4658, c4569]; first | exact f_17 | exact hQ23) (by rw [c4695, c4605]; rw [c4696, c4606]; rw [c4658, c4569]; first | exact f_18 | exact hQ26) (by rw [c4697, c4607]; rw [c4698, c4608]; rw [c4658, c4569]; first | exact f_19 | exact hQ27) (by rw [c4699, c4609]; rw [c4700, c4610]; rw [c4660, c4571]; first | exact f_20 | exact hQ36) (by rw [c4701, c4611]; rw [c4702, c4612]; rw [c4660, c4571]; first | exact f_21 | exact hQ37) (by rw [c4703, c4613]; rw [c4709, c4619]; rw [c4704, c4614]; rw [c4705, c4615]; rw [c4706, c4616]; rw [c4707, c4617]; rw [c4708, c4618]; rw [c4710, c4620]; rw [c4711, c4621]; rw [c4712, c4622]; rw [c4713, c4623]; rw [c4714, c4624]; exact f_22) (by rw [c4715, c4625]; rw [c4722, c4632]; rw [c4716, c4626]; rw [c4723, c4633]; rw [c4718, c4628]; rw [c4725, c4635]; rw [c4719, c4629]; rw [c4726, c4636]; rw [c4721, c4631]; rw [c4728, c4638]; rw [c4720, c4630]; rw [c4727, c4637]; exact f_23) (by rw [c4716, c4626]; rw [c4715, c4625]; rw [c4717, c4627]; rw [c4724, c4634]; exact f_24) (by rw [c4700, c4610]; rw [c4702, c4612]; rw [c4723, c4633]; rw [c4660, c4571]; rw [c4729, c4639]; exact f_25) (by rw [c4723, c4633]; rw [c4660, c4571]; exact f_26) (by rw [c4730, c4640]; rw [c4733, c4643]; rw [c4731, c4641]; rw [c4734, c4644]; rw [c4732, c4642]; rw [c4735, c4645]; exact f_27) (by omega)
                                                    · clear h4556
                                                      refine sf_sw0 ?_
                                                      refine sf_iinc (L' := [(0, .inl (.ref 100000)), (1, .inl (.ref 0)), (2, .inl (.ref 71)), (3, .inl (.ref 130))]) (x := x4) sf_c8 rfl rfl (by omega) (fun v4737 ev4737 => ?_)
                                                      refine sf_can (L' := [(0, .inl (.ref 100000)), (1, .inl (.ref 0)), (2, .inl (.ref 71)), (3, .inl (.ref 130)), (4, .inl (.int v4737))]) rfl ?_
                                                      exact ih _ _ _ _ I_w (by omega) (by omega) (by omega) (by omega) (by omega) (by first | exact f_1 | exact hJ) (by first | exact f_2 | exact hK2) (by first | exact f_3 | exact hQ2) (by first | exact f_4 | exact hQ6) (by first | exact f_5 | exact hQ7) (by first | exact f_6 | exact hQ8) (by first | exact f_7 | exact hQ9) (by first | exact f_8 | exact hQ14) (by first | exact f_9 | exact hQ15) (by first | exact f_10 | exact hQ16) (by first | exact f_11 | exact hQ17) (by first | exact f_12 | exact hQ18) (by first | exact f_13 | exact hQ19) (by first | exact f_14 | exact hQ20) (by first | exact f_15 | exact hQ24) (by first | exact f_16 | exact hQ25) (by first | exact f_17 | exact hQ23) (by first | exact f_18 | exact hQ26) (by first | exact f_19 | exact hQ27) (by first | exact f_20 | exact hQ36) (by first | exact f_21 | exact hQ37) (by exact f_22) (by exact f_23) (by exact f_24) (by exact f_25) (by exact f_26) (by exact f_27) (by omega)
