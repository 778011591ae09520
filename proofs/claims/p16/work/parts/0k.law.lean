set_option maxRecDepth 100000 in
set_option maxHeartbeats 40000000 in
theorem sc_law (N : Nat) (hN : N ≤ 4096) (xs : Nat → Int32) : ∀ n : Nat, ∀ (w : wq_W) (x4 : Int32) (a b : Nat), sf_I w → 0 ≤ x4.toInt → x4.toInt ≤ (N : Int) → (a : Int) ≤ 207 + 100 * x4.toInt → (b : Int) ≤ 4018 + 600 * x4.toInt → ((sf_f w 1 0).toInt = (sf_f w 71 1).toInt ∧ (sf_f w 1 5).toInt = (sf_f w 71 5).toInt ∧ (sf_f w 13 1).toInt = (sf_f w 71 10).toInt ∧ (sf_f w 21 1).toInt = (sf_f w 71 18).toInt ∧ (sf_f w 35 0).toInt = (sf_f w 71 35).toInt) → (sf_J (sf_a w 3) (sf_a w 72) (sf_f w 71 1).toInt) → (sf_K (sf_g w 10) (sf_a w 93)) → (sf_Q (sf_f w 71 1).toInt (sf_a w 2) (sf_a w 72)) → (sf_Q (sf_f w 71 5).toInt (sf_a w 6) (sf_a w 75)) → (sf_Q (sf_f w 71 5).toInt (sf_a w 7) (sf_a w 76)) → (sf_Q (sf_f w 71 5).toInt (sf_a w 8) (sf_a w 77)) → (sf_Q (sf_f w 71 5).toInt (sf_a w 9) (sf_a w 78)) → (sf_Q (sf_f w 71 10).toInt (sf_a w 14) (sf_a w 79)) → (sf_Q (sf_f w 71 10).toInt (sf_a w 15) (sf_a w 80)) → (sf_Q (sf_f w 71 10).toInt (sf_a w 16) (sf_a w 81)) → (sf_Q (sf_f w 71 10).toInt (sf_a w 17) (sf_a w 82)) → (sf_Q (sf_f w 71 10).toInt (sf_a w 18) (sf_a w 83)) → (sf_Q (sf_f w 71 10).toInt (sf_a w 19) (sf_a w 84)) → (sf_Q (sf_f w 71 10).toInt (sf_a w 20) (sf_a w 85)) → (sf_Q (sf_f w 71 18).toInt (sf_a w 24) (sf_a w 86)) → (sf_Q (sf_f w 71 18).toInt (sf_a w 25) (sf_a w 87)) → (sf_Q (sf_f w 71 18).toInt (sf_a w 23) (sf_a w 88)) → (sf_Q (sf_f w 71 18).toInt (sf_a w 26) (sf_a w 89)) → (sf_Q (sf_f w 71 18).toInt (sf_a w 27) (sf_a w 90)) → (sf_Q (sf_f w 71 35).toInt (sf_a w 36) (sf_a w 102)) → (sf_Q (sf_f w 71 35).toInt (sf_a w 37) (sf_a w 103)) → (sl_RL (sf_f w 60 0).toInt (sf_f w 71 56).toInt (sf_a w 61) (sf_a w 62) (sf_a w 63) (sf_a w 65) (sf_a w 66) (sf_a w 121) (sf_a w 122) (sf_a w 123) (sf_a w 125) (sf_a w 126)) → (sl_RD (sf_a w 38) (sf_a w 104) (sf_a w 40) (sf_a w 106) (sf_a w 42) (sf_a w 107) (sf_a w 43) (sf_a w 108) (sf_a w 47) (sf_a w 109) (sf_a w 44) (sf_a w 110)) → (sl_RF (sf_a w 40) (sf_a w 38) (sf_a w 41) (sf_a w 113)) → (sl_RT (sf_a w 102) (sf_a w 103) (sf_a w 106) (sf_f w 71 35).toInt (sf_f w 71 41).toInt) → (sl_RU (sf_a w 106) (sf_f w 71 35).toInt) → (sf_Q 16 (sf_a w 68) (sf_a w 127) ∧ sf_Q 16 (sf_a w 69) (sf_a w 128) ∧ sf_Q 16 (sf_a w 70) (sf_a w 129)) → (N : Int) - x4.toInt < (n : Int) → ku_W_law N xs n 23 [(0, .inl (.ref 100000)), (1, .inl (.ref 0)), (2, .inl (.ref 71)), (3, .inl (.ref 130)), (4, .inl (.int x4))] [] w a b := by
  intro n
  induction n with
  | zero => intros; omega
  | succ n ih =>
    intro w x4 a b I_w l_x4 u_x4 ha hb f_0 f_1 f_2 f_3 f_4 f_5 f_6 f_7 f_8 f_9 f_10 f_11 f_12 f_13 f_14 f_15 f_16 f_17 f_18 f_19 f_20 f_21 f_22 f_23 f_24 f_25 f_26 f_27 hm
    show kh_W_law_23 N xs (ku_W_law N xs n) [(0, .inl (.ref 100000)), (1, .inl (.ref 0)), (2, .inl (.ref 71)), (3, .inl (.ref 130)), (4, .inl (.int x4))] [] w a b
    generalize ku_W_law N xs n = K at ih ⊢
    have hs : sf_m [] w w := sf_m0
    refine sf_iload rfl ?_
    refine sf_aload rfl ?_
    refine sf_slen hN (fun z1 ez1 => ?_)
    refine sf_iconst sf_c8 (fun z2 ez2 => ?_)
    refine sf_isub (by omega) (fun v3 ev3 => ?_)
    refine sf_f2_gt (fun h4 => ?_) (fun h4 => ?_)
    · refine sf_iconst sf_c1 (fun z5 ez5 => ?_)
      exact sf_lend (by omega) (by omega) (by omega)
    · refine sf_aload rfl ?_
      refine sf_iload rfl ?_
      refine sf_sld (by omega) (fun v6 => ?_)
      refine sf_iconst sf_c31 (fun z7 ez7 => ?_)
      refine sf_iand (n := 31) (by omega) (by decide) (fun v8 lv8 uv8 => ?_)
      refine sf_sw1 sf_c0 (fun h9 => ?_) (fun h9 => ?_)
      · refine sf_aload rfl ?_
        refine sf_aload rfl ?_
        refine sf_iload rfl ?_
        refine sf_iconst sf_c1 (fun z10 ez10 => ?_)
        refine sf_iadd (by omega) (fun v11 ev11 => ?_)
        refine sf_sldk (x := x4) (k := 1) (by omega) (by omega) (by omega) ?_
        clear ev11 ez10
        refine sf_aload rfl ?_
        refine sf_callv3 rfl (by omega) (by omega) ?_
        refine sc_W_heading_0_130 I_w  (fun v12 w13 Iw13 tw13 lv12 uv12 q14_0 q14_1 q14_2 => ?_)
        have c15 := sf_mf tw13 (p := 71) (j := 1) rfl
        have c16 := sf_mf tw13 (p := 1) (j := 5) rfl
        have c17 := sf_mf tw13 (p := 71) (j := 5) rfl
        have c18 := sf_mf tw13 (p := 13) (j := 1) rfl
        have c19 := sf_mf tw13 (p := 71) (j := 10) rfl
        have c20 := sf_mf tw13 (p := 21) (j := 1) rfl
        have c21 := sf_mf tw13 (p := 71) (j := 18) rfl
        have c22 := sf_mf tw13 (p := 35) (j := 0) rfl
        have c23 := sf_mf tw13 (p := 71) (j := 35) rfl
        have c24 := sf_ma tw13 (p := 72) rfl
        have c25 := sf_mg tw13 (p := 10) rfl
        have c26 := sf_ma tw13 (p := 93) rfl
        have c27 := sf_ma tw13 (p := 6) rfl
        have c28 := sf_ma tw13 (p := 75) rfl
        have c29 := sf_ma tw13 (p := 7) rfl
        have c30 := sf_ma tw13 (p := 76) rfl
        have c31 := sf_ma tw13 (p := 8) rfl
        have c32 := sf_ma tw13 (p := 77) rfl
        have c33 := sf_ma tw13 (p := 9) rfl
        have c34 := sf_ma tw13 (p := 78) rfl
        have c35 := sf_ma tw13 (p := 14) rfl
        have c36 := sf_ma tw13 (p := 79) rfl
        have c37 := sf_ma tw13 (p := 15) rfl
        have c38 := sf_ma tw13 (p := 80) rfl
        have c39 := sf_ma tw13 (p := 16) rfl
        have c40 := sf_ma tw13 (p := 81) rfl
        have c41 := sf_ma tw13 (p := 17) rfl
        have c42 := sf_ma tw13 (p := 82) rfl
        have c43 := sf_ma tw13 (p := 18) rfl
        have c44 := sf_ma tw13 (p := 83) rfl
        have c45 := sf_ma tw13 (p := 19) rfl
        have c46 := sf_ma tw13 (p := 84) rfl
        have c47 := sf_ma tw13 (p := 20) rfl
        have c48 := sf_ma tw13 (p := 85) rfl
        have c49 := sf_ma tw13 (p := 24) rfl
        have c50 := sf_ma tw13 (p := 86) rfl
        have c51 := sf_ma tw13 (p := 25) rfl
        have c52 := sf_ma tw13 (p := 87) rfl
        have c53 := sf_ma tw13 (p := 23) rfl
        have c54 := sf_ma tw13 (p := 88) rfl
        have c55 := sf_ma tw13 (p := 26) rfl
        have c56 := sf_ma tw13 (p := 89) rfl
        have c57 := sf_ma tw13 (p := 27) rfl
        have c58 := sf_ma tw13 (p := 90) rfl
        have c59 := sf_ma tw13 (p := 36) rfl
        have c60 := sf_ma tw13 (p := 102) rfl
        have c61 := sf_ma tw13 (p := 37) rfl
        have c62 := sf_ma tw13 (p := 103) rfl
        have c63 := sf_mf tw13 (p := 60) (j := 0) rfl
        have c64 := sf_ma tw13 (p := 61) rfl
        have c65 := sf_ma tw13 (p := 62) rfl
        have c66 := sf_ma tw13 (p := 63) rfl
        have c67 := sf_ma tw13 (p := 65) rfl
        have c68 := sf_ma tw13 (p := 66) rfl
        have c69 := sf_mf tw13 (p := 71) (j := 56) rfl
        have c70 := sf_ma tw13 (p := 121) rfl
        have c71 := sf_ma tw13 (p := 122) rfl
        have c72 := sf_ma tw13 (p := 123) rfl
        have c73 := sf_ma tw13 (p := 125) rfl
        have c74 := sf_ma tw13 (p := 126) rfl
        have c75 := sf_ma tw13 (p := 38) rfl
        have c76 := sf_ma tw13 (p := 40) rfl
        have c77 := sf_ma tw13 (p := 41) rfl
        have c78 := sf_ma tw13 (p := 42) rfl
        have c79 := sf_ma tw13 (p := 43) rfl
        have c80 := sf_ma tw13 (p := 44) rfl
        have c81 := sf_ma tw13 (p := 47) rfl
        have c82 := sf_ma tw13 (p := 104) rfl
        have c83 := sf_ma tw13 (p := 106) rfl
        have c84 := sf_ma tw13 (p := 113) rfl
        have c85 := sf_ma tw13 (p := 107) rfl
        have c86 := sf_ma tw13 (p := 108) rfl
        have c87 := sf_ma tw13 (p := 110) rfl
        have c88 := sf_ma tw13 (p := 109) rfl
        have c89 := sf_mf tw13 (p := 71) (j := 41) rfl
        have c90 := sf_ma tw13 (p := 68) rfl
        have c91 := sf_ma tw13 (p := 69) rfl
        have c92 := sf_ma tw13 (p := 70) rfl
        have c93 := sf_ma tw13 (p := 127) rfl
        have c94 := sf_ma tw13 (p := 128) rfl
        have c95 := sf_ma tw13 (p := 129) rfl
        have U2 := q14_2
        clear q14_2
        have F1 := q14_0
        have F2 := q14_1
        clear q14_0 q14_1
        have hHD : (sf_f w 1 0).toInt = (sf_f w 71 1).toInt := by omega
        rw [hHD] at F2
        refine sf_istore (L' := [(0, .inl (.ref 100000)), (1, .inl (.ref 0)), (2, .inl (.ref 71)), (3, .inl (.ref 130)), (4, .inl (.int x4))]) rfl ?_
        refine sf_aload rfl ?_
        refine sf_aload rfl ?_
        refine sf_iload rfl ?_
        refine sf_iconst sf_c1 (fun z96 ez96 => ?_)
        refine sf_iadd (by omega) (fun v97 ev97 => ?_)
        refine sf_sldk (x := x4) (k := 1) (by omega) (by omega) (by omega) ?_
        clear ev97 ez96
        refine sf_callv2 rfl (by omega) (by omega) ?_
        refine sf_rv Iw13 rfl ?_
        refine sc_M_heading Iw13 (by rw [c24]; rw [c15]; exact sf_J3 f_1 F2) (fun v98 w99 Iw99 tw99 lv98 uv98 q100_0 q100_1 q100_2 => ?_)
        rw [c15] at q100_0
        rw [c24] at q100_1
        rw [c15] at q100_1
        rw [c24] at q100_2
        rw [c15] at q100_2
        have c101 := sf_mf tw99 (p := 1) (j := 0) rfl
        have c102 := sf_mf tw99 (p := 1) (j := 5) rfl
        have c103 := sf_mf tw99 (p := 71) (j := 5) rfl
        have c104 := sf_mf tw99 (p := 13) (j := 1) rfl
        have c105 := sf_mf tw99 (p := 71) (j := 10) rfl
        have c106 := sf_mf tw99 (p := 21) (j := 1) rfl
        have c107 := sf_mf tw99 (p := 71) (j := 18) rfl
        have c108 := sf_mf tw99 (p := 35) (j := 0) rfl
        have c109 := sf_mf tw99 (p := 71) (j := 35) rfl
        have c110 := sf_ma tw99 (p := 3) rfl
        have c111 := sf_mg tw99 (p := 10) rfl
        have c112 := sf_ma tw99 (p := 93) rfl
        have c113 := sf_mL tw99 (p := 130) rfl
        have c114 := sf_ma tw99 (p := 2) rfl
        have c115 := sf_ma tw99 (p := 6) rfl
        have c116 := sf_ma tw99 (p := 75) rfl
        have c117 := sf_ma tw99 (p := 7) rfl
        have c118 := sf_ma tw99 (p := 76) rfl
        have c119 := sf_ma tw99 (p := 8) rfl
        have c120 := sf_ma tw99 (p := 77) rfl
        have c121 := sf_ma tw99 (p := 9) rfl
        have c122 := sf_ma tw99 (p := 78) rfl
        have c123 := sf_ma tw99 (p := 14) rfl
        have c124 := sf_ma tw99 (p := 79) rfl
        have c125 := sf_ma tw99 (p := 15) rfl
        have c126 := sf_ma tw99 (p := 80) rfl
        have c127 := sf_ma tw99 (p := 16) rfl
        have c128 := sf_ma tw99 (p := 81) rfl
        have c129 := sf_ma tw99 (p := 17) rfl
        have c130 := sf_ma tw99 (p := 82) rfl
        have c131 := sf_ma tw99 (p := 18) rfl
        have c132 := sf_ma tw99 (p := 83) rfl
        have c133 := sf_ma tw99 (p := 19) rfl
        have c134 := sf_ma tw99 (p := 84) rfl
        have c135 := sf_ma tw99 (p := 20) rfl
        have c136 := sf_ma tw99 (p := 85) rfl
        have c137 := sf_ma tw99 (p := 24) rfl
        have c138 := sf_ma tw99 (p := 86) rfl
        have c139 := sf_ma tw99 (p := 25) rfl
        have c140 := sf_ma tw99 (p := 87) rfl
        have c141 := sf_ma tw99 (p := 23) rfl
        have c142 := sf_ma tw99 (p := 88) rfl
        have c143 := sf_ma tw99 (p := 26) rfl
        have c144 := sf_ma tw99 (p := 89) rfl
        have c145 := sf_ma tw99 (p := 27) rfl
        have c146 := sf_ma tw99 (p := 90) rfl
        have c147 := sf_ma tw99 (p := 36) rfl
        have c148 := sf_ma tw99 (p := 102) rfl
        have c149 := sf_ma tw99 (p := 37) rfl
        have c150 := sf_ma tw99 (p := 103) rfl
        have c151 := sf_mf tw99 (p := 60) (j := 0) rfl
        have c152 := sf_ma tw99 (p := 61) rfl
        have c153 := sf_ma tw99 (p := 62) rfl
        have c154 := sf_ma tw99 (p := 63) rfl
        have c155 := sf_ma tw99 (p := 65) rfl
        have c156 := sf_ma tw99 (p := 66) rfl
        have c157 := sf_mf tw99 (p := 71) (j := 56) rfl
        have c158 := sf_ma tw99 (p := 121) rfl
        have c159 := sf_ma tw99 (p := 122) rfl
        have c160 := sf_ma tw99 (p := 123) rfl
        have c161 := sf_ma tw99 (p := 125) rfl
        have c162 := sf_ma tw99 (p := 126) rfl
        have c163 := sf_ma tw99 (p := 38) rfl
        have c164 := sf_ma tw99 (p := 40) rfl
        have c165 := sf_ma tw99 (p := 41) rfl
        have c166 := sf_ma tw99 (p := 42) rfl
        have c167 := sf_ma tw99 (p := 43) rfl
        have c168 := sf_ma tw99 (p := 44) rfl
        have c169 := sf_ma tw99 (p := 47) rfl
        have c170 := sf_ma tw99 (p := 104) rfl
        have c171 := sf_ma tw99 (p := 106) rfl
        have c172 := sf_ma tw99 (p := 113) rfl
        have c173 := sf_ma tw99 (p := 107) rfl
        have c174 := sf_ma tw99 (p := 108) rfl
        have c175 := sf_ma tw99 (p := 110) rfl
        have c176 := sf_ma tw99 (p := 109) rfl
        have c177 := sf_mf tw99 (p := 71) (j := 41) rfl
        have c178 := sf_ma tw99 (p := 68) rfl
        have c179 := sf_ma tw99 (p := 69) rfl
        have c180 := sf_ma tw99 (p := 70) rfl
        have c181 := sf_ma tw99 (p := 127) rfl
        have c182 := sf_ma tw99 (p := 128) rfl
        have c183 := sf_ma tw99 (p := 129) rfl
        have U72 := q100_2
        clear q100_2
        have G1 := q100_0
        have G2 := q100_1
        clear q100_0 q100_1
        have h00 := sf_hd I_w
        have hd3 : 0 ≤ (xs (x4.toInt.toNat + 1)).toInt → (xs (x4.toInt.toNat + 1)).toInt < (sf_f w 71 1).toInt → (sf_a w13 3 (xs (x4.toInt.toNat + 1)).toInt.toNat).toInt = (sf_a w 3 (xs (x4.toInt.toNat + 1)).toInt.toNat).toInt := fun h1 h2 => by rw [sf_F2d F2 h1 h2]
        have hrc : v12.toInt = (sf_f w99 71 0).toInt := by omega
        have hJ := sf_JH f_1 h00 F2 G2 hrc
        have hcn : (v12.toInt = 0 ∧ (sf_f w99 71 1).toInt = (sf_f w 71 1).toInt + 1) ∨ (v12.toInt ≠ 0 ∧ (sf_f w99 71 1).toInt = (sf_f w 71 1).toInt) := by omega
        have hQ2 := sf_QH f_3 U2 U72 (by omega) hrc hcn
        refine sf_istore (L' := [(5, .inl (.int v12)), (0, .inl (.ref 100000)), (1, .inl (.ref 0)), (2, .inl (.ref 71)), (3, .inl (.ref 130)), (4, .inl (.int x4))]) rfl ?_
        show kt_W_law_1404 N xs K _ _ _ _ _
        refine sf_iinc (L' := [(6, .inl (.int v98)), (5, .inl (.int v12)), (0, .inl (.ref 100000)), (1, .inl (.ref 0)), (2, .inl (.ref 71)), (3, .inl (.ref 130))]) (x := x4) sf_c8 rfl rfl (by omega) (fun v184 ev184 => ?_)
        refine sf_can (L' := [(0, .inl (.ref 100000)), (1, .inl (.ref 0)), (2, .inl (.ref 71)), (3, .inl (.ref 130)), (4, .inl (.int v184))]) rfl ?_
        exact ih _ _ _ _ Iw99 (by omega) (by omega) (by omega) (by omega) (by rw [c101]; rw [c102, c16]; rw [c103, c17]; rw [c104, c18]; rw [c105, c19]; rw [c106, c20]; rw [c107, c21]; rw [c108, c22]; rw [c109, c23]; omega) (by rw [c110]; first | exact f_1 | exact hJ) (by rw [c111, c25]; rw [c112, c26]; first | exact f_2 | exact hK2) (by rw [c114]; first | exact f_3 | exact hQ2) (by rw [c115, c27]; rw [c116, c28]; rw [c103, c17]; first | exact f_4 | exact hQ6) (by rw [c117, c29]; rw [c118, c30]; rw [c103, c17]; first | exact f_5 | exact hQ7) (by rw [c119, c31]; rw [c120, c32]; rw [c103, c17]; first | exact f_6 | exact hQ8) (by rw [c121, c33]; rw [c122, c34]; rw [c103, c17]; first | exact f_7 | exact hQ9) (by rw [c123, c35]; rw [c124, c36]; rw [c105, c19]; first | exact f_8 | exact hQ14) (by rw [c125, c37]; rw [c126, c38]; rw [c105, c19]; first | exact f_9 | exact hQ15) (by rw [c127, c39]; rw [c128, c40]; rw [c105, c19]; first | exact f_10 | exact hQ16) (by rw [c129, c41]; rw [c130, c42]; rw [c105, c19]; first | exact f_11 | exact hQ17) (by rw [c131, c43]; rw [c132, c44]; rw [c105, c19]; first | exact f_12 | exact hQ18) (by rw [c133, c45]; rw [c134, c46]; rw [c105, c19]; first | exact f_13 | exact hQ19) (by rw [c135, c47]; rw [c136, c48]; rw [c105, c19]; first | exact f_14 | exact hQ20) (by rw [c137, c49]; rw [c138, c50]; rw [c107, c21]; first | exact f_15 | exact hQ24) (by rw [c139, c51]; rw [c140, c52]; rw [c107, c21]; first | exact f_16 | exact hQ25) (by rw [c141, c53]; rw [c142, c54]; rw [c107, c21]; first | exact f_17 | exact hQ23) (by rw [c143, c55]; rw [c144, c56]; rw [c107, c21]; first | exact f_18 | exact hQ26) (by rw [c145, c57]; rw [c146, c58]; rw [c107, c21]; first | exact f_19 | exact hQ27) (by rw [c147, c59]; rw [c148, c60]; rw [c109, c23]; first | exact f_20 | exact hQ36) (by rw [c149, c61]; rw [c150, c62]; rw [c109, c23]; first | exact f_21 | exact hQ37) (by rw [c151, c63]; rw [c157, c69]; rw [c152, c64]; rw [c153, c65]; rw [c154, c66]; rw [c155, c67]; rw [c156, c68]; rw [c158, c70]; rw [c159, c71]; rw [c160, c72]; rw [c161, c73]; rw [c162, c74]; exact f_22) (by rw [c163, c75]; rw [c170, c82]; rw [c164, c76]; rw [c171, c83]; rw [c166, c78]; rw [c173, c85]; rw [c167, c79]; rw [c174, c86]; rw [c169, c81]; rw [c176, c88]; rw [c168, c80]; rw [c175, c87]; exact f_23) (by rw [c164, c76]; rw [c163, c75]; rw [c165, c77]; rw [c172, c84]; exact f_24) (by rw [c148, c60]; rw [c150, c62]; rw [c171, c83]; rw [c109, c23]; rw [c177, c89]; exact f_25) (by rw [c171, c83]; rw [c109, c23]; exact f_26) (by rw [c178, c90]; rw [c181, c93]; rw [c179, c91]; rw [c182, c94]; rw [c180, c92]; rw [c183, c95]; exact f_27) (by omega)
      · clear h9
        refine sf_sw1 sf_c1 (fun h185 => ?_) (fun h185 => ?_)
        · refine sf_aload rfl ?_
          refine sf_aload rfl ?_
          refine sf_iload rfl ?_
          refine sf_iconst sf_c1 (fun z186 ez186 => ?_)
          refine sf_iadd (by omega) (fun v187 ev187 => ?_)
          refine sf_sldk (x := x4) (k := 1) (by omega) (by omega) (by omega) ?_
          clear ev187 ez186
          refine sf_aload rfl ?_
          refine sf_iload rfl ?_
          refine sf_iconst sf_c2 (fun z188 ez188 => ?_)
          refine sf_iadd (by omega) (fun v189 ev189 => ?_)
          refine sf_sldk (x := x4) (k := 2) (by omega) (by omega) (by omega) ?_
          clear ev189 ez188
          refine sf_aload rfl ?_
          refine sf_iload rfl ?_
          refine sf_iconst sf_c3 (fun z190 ez190 => ?_)
          refine sf_iadd (by omega) (fun v191 ev191 => ?_)
          refine sf_sldk (x := x4) (k := 3) (by omega) (by omega) (by omega) ?_
          clear ev191 ez190
          refine sf_aload rfl ?_
          refine sf_iload rfl ?_
          refine sf_iconst sf_c4 (fun z192 ez192 => ?_)
          refine sf_iadd (by omega) (fun v193 ev193 => ?_)
          refine sf_sldk (x := x4) (k := 4) (by omega) (by omega) (by omega) ?_
          clear ev193 ez192
          refine sf_aload rfl ?_
          refine sf_callv6 rfl (by omega) (by omega) ?_
          refine sc_W_note_0_130 I_w  (fun v194 w195 Iw195 tw195 lv194 uv194 q196_0 q196_1 q196_2 q196_3 q196_4 => ?_)
          have c197 := sf_mf tw195 (p := 1) (j := 0) rfl
          have c198 := sf_mf tw195 (p := 71) (j := 1) rfl
          have c199 := sf_mf tw195 (p := 71) (j := 5) rfl
          have c200 := sf_mf tw195 (p := 13) (j := 1) rfl
          have c201 := sf_mf tw195 (p := 71) (j := 10) rfl
          have c202 := sf_mf tw195 (p := 21) (j := 1) rfl
          have c203 := sf_mf tw195 (p := 71) (j := 18) rfl
          have c204 := sf_mf tw195 (p := 35) (j := 0) rfl
          have c205 := sf_mf tw195 (p := 71) (j := 35) rfl
          have c206 := sf_ma tw195 (p := 3) rfl
          have c207 := sf_ma tw195 (p := 72) rfl
          have c208 := sf_mg tw195 (p := 10) rfl
          have c209 := sf_ma tw195 (p := 93) rfl
          have c210 := sf_ma tw195 (p := 2) rfl
          have c211 := sf_ma tw195 (p := 75) rfl
          have c212 := sf_ma tw195 (p := 76) rfl
          have c213 := sf_ma tw195 (p := 77) rfl
          have c214 := sf_ma tw195 (p := 78) rfl
          have c215 := sf_ma tw195 (p := 14) rfl
          have c216 := sf_ma tw195 (p := 79) rfl
          have c217 := sf_ma tw195 (p := 15) rfl
          have c218 := sf_ma tw195 (p := 80) rfl
          have c219 := sf_ma tw195 (p := 16) rfl
          have c220 := sf_ma tw195 (p := 81) rfl
          have c221 := sf_ma tw195 (p := 17) rfl
          have c222 := sf_ma tw195 (p := 82) rfl
          have c223 := sf_ma tw195 (p := 18) rfl
          have c224 := sf_ma tw195 (p := 83) rfl
          have c225 := sf_ma tw195 (p := 19) rfl
          have c226 := sf_ma tw195 (p := 84) rfl
          have c227 := sf_ma tw195 (p := 20) rfl
          have c228 := sf_ma tw195 (p := 85) rfl
          have c229 := sf_ma tw195 (p := 24) rfl
          have c230 := sf_ma tw195 (p := 86) rfl
          have c231 := sf_ma tw195 (p := 25) rfl
          have c232 := sf_ma tw195 (p := 87) rfl
          have c233 := sf_ma tw195 (p := 23) rfl
          have c234 := sf_ma tw195 (p := 88) rfl
          have c235 := sf_ma tw195 (p := 26) rfl
          have c236 := sf_ma tw195 (p := 89) rfl
          have c237 := sf_ma tw195 (p := 27) rfl
          have c238 := sf_ma tw195 (p := 90) rfl
          have c239 := sf_ma tw195 (p := 36) rfl
          have c240 := sf_ma tw195 (p := 102) rfl
          have c241 := sf_ma tw195 (p := 37) rfl
          have c242 := sf_ma tw195 (p := 103) rfl
          have c243 := sf_mf tw195 (p := 60) (j := 0) rfl
          have c244 := sf_ma tw195 (p := 61) rfl
          have c245 := sf_ma tw195 (p := 62) rfl
          have c246 := sf_ma tw195 (p := 63) rfl
          have c247 := sf_ma tw195 (p := 65) rfl
          have c248 := sf_ma tw195 (p := 66) rfl
          have c249 := sf_mf tw195 (p := 71) (j := 56) rfl
          have c250 := sf_ma tw195 (p := 121) rfl
          have c251 := sf_ma tw195 (p := 122) rfl
          have c252 := sf_ma tw195 (p := 123) rfl
          have c253 := sf_ma tw195 (p := 125) rfl
          have c254 := sf_ma tw195 (p := 126) rfl
          have c255 := sf_ma tw195 (p := 38) rfl
          have c256 := sf_ma tw195 (p := 40) rfl
          have c257 := sf_ma tw195 (p := 41) rfl
          have c258 := sf_ma tw195 (p := 42) rfl
          have c259 := sf_ma tw195 (p := 43) rfl
          have c260 := sf_ma tw195 (p := 44) rfl
          have c261 := sf_ma tw195 (p := 47) rfl
          have c262 := sf_ma tw195 (p := 104) rfl
          have c263 := sf_ma tw195 (p := 106) rfl
          have c264 := sf_ma tw195 (p := 113) rfl
          have c265 := sf_ma tw195 (p := 107) rfl
          have c266 := sf_ma tw195 (p := 108) rfl
          have c267 := sf_ma tw195 (p := 110) rfl
          have c268 := sf_ma tw195 (p := 109) rfl
          have c269 := sf_mf tw195 (p := 71) (j := 41) rfl
          have c270 := sf_ma tw195 (p := 68) rfl
          have c271 := sf_ma tw195 (p := 69) rfl
          have c272 := sf_ma tw195 (p := 70) rfl
          have c273 := sf_ma tw195 (p := 127) rfl
          have c274 := sf_ma tw195 (p := 128) rfl
          have c275 := sf_ma tw195 (p := 129) rfl
          have U6 := q196_1
          have U7 := q196_2
          have U8 := q196_3
          have U9 := q196_4
          clear q196_1 q196_2 q196_3 q196_4
          have F1 := q196_0
          refine sf_istore (L' := [(0, .inl (.ref 100000)), (1, .inl (.ref 0)), (2, .inl (.ref 71)), (3, .inl (.ref 130)), (4, .inl (.int x4))]) rfl ?_
          refine sf_aload rfl ?_
          refine sf_aload rfl ?_
          refine sf_iload rfl ?_
          refine sf_iconst sf_c1 (fun z276 ez276 => ?_)
          refine sf_iadd (by omega) (fun v277 ev277 => ?_)
          refine sf_sldk (x := x4) (k := 1) (by omega) (by omega) (by omega) ?_
          clear ev277 ez276
          refine sf_aload rfl ?_
          refine sf_iload rfl ?_
          refine sf_iconst sf_c2 (fun z278 ez278 => ?_)
          refine sf_iadd (by omega) (fun v279 ev279 => ?_)
          refine sf_sldk (x := x4) (k := 2) (by omega) (by omega) (by omega) ?_
          clear ev279 ez278
          refine sf_aload rfl ?_
          refine sf_iload rfl ?_
          refine sf_iconst sf_c3 (fun z280 ez280 => ?_)
          refine sf_iadd (by omega) (fun v281 ev281 => ?_)
          refine sf_sldk (x := x4) (k := 3) (by omega) (by omega) (by omega) ?_
          clear ev281 ez280
          refine sf_aload rfl ?_
          refine sf_iload rfl ?_
          refine sf_iconst sf_c4 (fun z282 ez282 => ?_)
          refine sf_iadd (by omega) (fun v283 ev283 => ?_)
          refine sf_sldk (x := x4) (k := 4) (by omega) (by omega) (by omega) ?_
          clear ev283 ez282
          refine sf_callv5 rfl (by omega) (by omega) ?_
          refine sf_rv Iw195 rfl ?_
          refine sc_M_note Iw195  (fun v284 w285 Iw285 tw285 lv284 uv284 q286_0 q286_1 q286_2 q286_3 q286_4 => ?_)
          rw [c198] at q286_0
          rw [c199] at q286_0
          rw [c211] at q286_1
          rw [c199] at q286_1
          rw [c212] at q286_2
          rw [c199] at q286_2
          rw [c213] at q286_3
          rw [c199] at q286_3
          rw [c214] at q286_4
          rw [c199] at q286_4
          have c287 := sf_mf tw285 (p := 1) (j := 0) rfl
          have c288 := sf_mf tw285 (p := 71) (j := 1) rfl
          have c289 := sf_mf tw285 (p := 1) (j := 5) rfl
          have c290 := sf_mf tw285 (p := 13) (j := 1) rfl
          have c291 := sf_mf tw285 (p := 71) (j := 10) rfl
          have c292 := sf_mf tw285 (p := 21) (j := 1) rfl
          have c293 := sf_mf tw285 (p := 71) (j := 18) rfl
          have c294 := sf_mf tw285 (p := 35) (j := 0) rfl
          have c295 := sf_mf tw285 (p := 71) (j := 35) rfl
          have c296 := sf_ma tw285 (p := 3) rfl
          have c297 := sf_ma tw285 (p := 72) rfl
          have c298 := sf_mg tw285 (p := 10) rfl
          have c299 := sf_ma tw285 (p := 93) rfl
          have c300 := sf_mL tw285 (p := 130) rfl
          have c301 := sf_ma tw285 (p := 2) rfl
          have c302 := sf_ma tw285 (p := 6) rfl
          have c303 := sf_ma tw285 (p := 7) rfl
          have c304 := sf_ma tw285 (p := 8) rfl
          have c305 := sf_ma tw285 (p := 9) rfl
          have c306 := sf_ma tw285 (p := 14) rfl
          have c307 := sf_ma tw285 (p := 79) rfl
          have c308 := sf_ma tw285 (p := 15) rfl
          have c309 := sf_ma tw285 (p := 80) rfl
          have c310 := sf_ma tw285 (p := 16) rfl
          have c311 := sf_ma tw285 (p := 81) rfl
          have c312 := sf_ma tw285 (p := 17) rfl
          have c313 := sf_ma tw285 (p := 82) rfl
          have c314 := sf_ma tw285 (p := 18) rfl
          have c315 := sf_ma tw285 (p := 83) rfl
          have c316 := sf_ma tw285 (p := 19) rfl
          have c317 := sf_ma tw285 (p := 84) rfl
          have c318 := sf_ma tw285 (p := 20) rfl
          have c319 := sf_ma tw285 (p := 85) rfl
          have c320 := sf_ma tw285 (p := 24) rfl
          have c321 := sf_ma tw285 (p := 86) rfl
          have c322 := sf_ma tw285 (p := 25) rfl
          have c323 := sf_ma tw285 (p := 87) rfl
          have c324 := sf_ma tw285 (p := 23) rfl
          have c325 := sf_ma tw285 (p := 88) rfl
          have c326 := sf_ma tw285 (p := 26) rfl
          have c327 := sf_ma tw285 (p := 89) rfl
          have c328 := sf_ma tw285 (p := 27) rfl
          have c329 := sf_ma tw285 (p := 90) rfl
          have c330 := sf_ma tw285 (p := 36) rfl
          have c331 := sf_ma tw285 (p := 102) rfl
          have c332 := sf_ma tw285 (p := 37) rfl
          have c333 := sf_ma tw285 (p := 103) rfl
          have c334 := sf_mf tw285 (p := 60) (j := 0) rfl
          have c335 := sf_ma tw285 (p := 61) rfl
          have c336 := sf_ma tw285 (p := 62) rfl
          have c337 := sf_ma tw285 (p := 63) rfl
          have c338 := sf_ma tw285 (p := 65) rfl
          have c339 := sf_ma tw285 (p := 66) rfl
          have c340 := sf_mf tw285 (p := 71) (j := 56) rfl
          have c341 := sf_ma tw285 (p := 121) rfl
          have c342 := sf_ma tw285 (p := 122) rfl
          have c343 := sf_ma tw285 (p := 123) rfl
          have c344 := sf_ma tw285 (p := 125) rfl
          have c345 := sf_ma tw285 (p := 126) rfl
          have c346 := sf_ma tw285 (p := 38) rfl
          have c347 := sf_ma tw285 (p := 40) rfl
          have c348 := sf_ma tw285 (p := 41) rfl
          have c349 := sf_ma tw285 (p := 42) rfl
          have c350 := sf_ma tw285 (p := 43) rfl
          have c351 := sf_ma tw285 (p := 44) rfl
          have c352 := sf_ma tw285 (p := 47) rfl
          have c353 := sf_ma tw285 (p := 104) rfl
          have c354 := sf_ma tw285 (p := 106) rfl
          have c355 := sf_ma tw285 (p := 113) rfl
          have c356 := sf_ma tw285 (p := 107) rfl
          have c357 := sf_ma tw285 (p := 108) rfl
          have c358 := sf_ma tw285 (p := 110) rfl
          have c359 := sf_ma tw285 (p := 109) rfl
          have c360 := sf_mf tw285 (p := 71) (j := 41) rfl
          have c361 := sf_ma tw285 (p := 68) rfl
          have c362 := sf_ma tw285 (p := 69) rfl
          have c363 := sf_ma tw285 (p := 70) rfl
          have c364 := sf_ma tw285 (p := 127) rfl
          have c365 := sf_ma tw285 (p := 128) rfl
          have c366 := sf_ma tw285 (p := 129) rfl
          have U75 := q286_1
          have U76 := q286_2
          have U77 := q286_3
          have U78 := q286_4
          clear q286_1 q286_2 q286_3 q286_4
          have G1 := q286_0
          have hrc : v194.toInt = (sf_f w285 71 0).toInt := by omega
          have hcn : (v194.toInt = 0 ∧ (sf_f w285 71 5).toInt = (sf_f w 71 5).toInt + 1) ∨ (v194.toInt ≠ 0 ∧ (sf_f w285 71 5).toInt = (sf_f w 71 5).toInt) := by omega
          have hQ6 := sf_QH f_4 U6 U75 (by omega) hrc hcn
          have hQ7 := sf_QH f_5 U7 U76 (by omega) hrc hcn
          have hQ8 := sf_QH f_6 U8 U77 (by omega) hrc hcn
          have hQ9 := sf_QH f_7 U9 U78 (by omega) hrc hcn
          refine sf_istore (L' := [(5, .inl (.int v194)), (0, .inl (.ref 100000)), (1, .inl (.ref 0)), (2, .inl (.ref 71)), (3, .inl (.ref 130)), (4, .inl (.int x4))]) rfl ?_
          show kt_W_law_1404 N xs K _ _ _ _ _
          refine sf_iinc (L' := [(6, .inl (.int v284)), (5, .inl (.int v194)), (0, .inl (.ref 100000)), (1, .inl (.ref 0)), (2, .inl (.ref 71)), (3, .inl (.ref 130))]) (x := x4) sf_c8 rfl rfl (by omega) (fun v367 ev367 => ?_)
          refine sf_can (L' := [(0, .inl (.ref 100000)), (1, .inl (.ref 0)), (2, .inl (.ref 71)), (3, .inl (.ref 130)), (4, .inl (.int v367))]) rfl ?_
          exact ih _ _ _ _ Iw285 (by omega) (by omega) (by omega) (by omega) (by rw [c287, c197]; rw [c288, c198]; rw [c289]; rw [c290, c200]; rw [c291, c201]; rw [c292, c202]; rw [c293, c203]; rw [c294, c204]; rw [c295, c205]; omega) (by rw [c296, c206]; rw [c297, c207]; rw [c288, c198]; first | exact f_1 | exact hJ) (by rw [c298, c208]; rw [c299, c209]; first | exact f_2 | exact hK2) (by rw [c301, c210]; rw [c297, c207]; rw [c288, c198]; first | exact f_3 | exact hQ2) (by rw [c302]; first | exact f_4 | exact hQ6) (by rw [c303]; first | exact f_5 | exact hQ7) (by rw [c304]; first | exact f_6 | exact hQ8) (by rw [c305]; first | exact f_7 | exact hQ9) (by rw [c306, c215]; rw [c307, c216]; rw [c291, c201]; first | exact f_8 | exact hQ14) (by rw [c308, c217]; rw [c309, c218]; rw [c291, c201]; first | exact f_9 | exact hQ15) (by rw [c310, c219]; rw [c311, c220]; rw [c291, c201]; first | exact f_10 | exact hQ16) (by rw [c312, c221]; rw [c313, c222]; rw [c291, c201]; first | exact f_11 | exact hQ17) (by rw [c314, c223]; rw [c315, c224]; rw [c291, c201]; first | exact f_12 | exact hQ18) (by rw [c316, c225]; rw [c317, c226]; rw [c291, c201]; first | exact f_13 | exact hQ19) (by rw [c318, c227]; rw [c319, c228]; rw [c291, c201]; first | exact f_14 | exact hQ20) (by rw [c320, c229]; rw [c321, c230]; rw [c293, c203]; first | exact f_15 | exact hQ24) (by rw [c322, c231]; rw [c323, c232]; rw [c293, c203]; first | exact f_16 | exact hQ25) (by rw [c324, c233]; rw [c325, c234]; rw [c293, c203]; first | exact f_17 | exact hQ23) (by rw [c326, c235]; rw [c327, c236]; rw [c293, c203]; first | exact f_18 | exact hQ26) (by rw [c328, c237]; rw [c329, c238]; rw [c293, c203]; first | exact f_19 | exact hQ27) (by rw [c330, c239]; rw [c331, c240]; rw [c295, c205]; first | exact f_20 | exact hQ36) (by rw [c332, c241]; rw [c333, c242]; rw [c295, c205]; first | exact f_21 | exact hQ37) (by rw [c334, c243]; rw [c340, c249]; rw [c335, c244]; rw [c336, c245]; rw [c337, c246]; rw [c338, c247]; rw [c339, c248]; rw [c341, c250]; rw [c342, c251]; rw [c343, c252]; rw [c344, c253]; rw [c345, c254]; exact f_22) (by rw [c346, c255]; rw [c353, c262]; rw [c347, c256]; rw [c354, c263]; rw [c349, c258]; rw [c356, c265]; rw [c350, c259]; rw [c357, c266]; rw [c352, c261]; rw [c359, c268]; rw [c351, c260]; rw [c358, c267]; exact f_23) (by rw [c347, c256]; rw [c346, c255]; rw [c348, c257]; rw [c355, c264]; exact f_24) (by rw [c331, c240]; rw [c333, c242]; rw [c354, c263]; rw [c295, c205]; rw [c360, c269]; exact f_25) (by rw [c354, c263]; rw [c295, c205]; exact f_26) (by rw [c361, c270]; rw [c364, c273]; rw [c362, c271]; rw [c365, c274]; rw [c363, c272]; rw [c366, c275]; exact f_27) (by omega)
        · clear h185
          refine sf_sw1 sf_c2 (fun h368 => ?_) (fun h368 => ?_)
          · refine sf_aload rfl ?_
            refine sf_aload rfl ?_
            refine sf_iload rfl ?_
            refine sf_iconst sf_c1 (fun z369 ez369 => ?_)
            refine sf_iadd (by omega) (fun v370 ev370 => ?_)
            refine sf_sldk (x := x4) (k := 1) (by omega) (by omega) (by omega) ?_
            clear ev370 ez369
            refine sf_aload rfl ?_
            refine sf_iload rfl ?_
            refine sf_iconst sf_c2 (fun z371 ez371 => ?_)
            refine sf_iadd (by omega) (fun v372 ev372 => ?_)
            refine sf_sldk (x := x4) (k := 2) (by omega) (by omega) (by omega) ?_
            clear ev372 ez371
            refine sf_aload rfl ?_
            refine sf_iload rfl ?_
            refine sf_iconst sf_c3 (fun z373 ez373 => ?_)
            refine sf_iadd (by omega) (fun v374 ev374 => ?_)
            refine sf_sldk (x := x4) (k := 3) (by omega) (by omega) (by omega) ?_
            clear ev374 ez373
            refine sf_aload rfl ?_
            refine sf_callv5 rfl (by omega) (by omega) ?_
            refine sc_W_fact_0_130 I_w  (fun v375 w376 Iw376 tw376 lv375 uv375 q377_0 q377_1 => ?_)
            have c378 := sf_mf tw376 (p := 1) (j := 0) rfl
            have c379 := sf_mf tw376 (p := 71) (j := 1) rfl
            have c380 := sf_mf tw376 (p := 1) (j := 5) rfl
            have c381 := sf_mf tw376 (p := 71) (j := 5) rfl
            have c382 := sf_mf tw376 (p := 13) (j := 1) rfl
            have c383 := sf_mf tw376 (p := 71) (j := 10) rfl
            have c384 := sf_mf tw376 (p := 21) (j := 1) rfl
            have c385 := sf_mf tw376 (p := 71) (j := 18) rfl
            have c386 := sf_mf tw376 (p := 35) (j := 0) rfl
            have c387 := sf_mf tw376 (p := 71) (j := 35) rfl
            have c388 := sf_ma tw376 (p := 3) rfl
            have c389 := sf_ma tw376 (p := 72) rfl
            have c390 := sf_ma tw376 (p := 93) rfl
            have c391 := sf_ma tw376 (p := 2) rfl
            have c392 := sf_ma tw376 (p := 6) rfl
            have c393 := sf_ma tw376 (p := 75) rfl
            have c394 := sf_ma tw376 (p := 7) rfl
            have c395 := sf_ma tw376 (p := 76) rfl
            have c396 := sf_ma tw376 (p := 8) rfl
            have c397 := sf_ma tw376 (p := 77) rfl
            have c398 := sf_ma tw376 (p := 9) rfl
            have c399 := sf_ma tw376 (p := 78) rfl
            have c400 := sf_ma tw376 (p := 14) rfl
            have c401 := sf_ma tw376 (p := 79) rfl
            have c402 := sf_ma tw376 (p := 15) rfl
            have c403 := sf_ma tw376 (p := 80) rfl
            have c404 := sf_ma tw376 (p := 16) rfl
            have c405 := sf_ma tw376 (p := 81) rfl
            have c406 := sf_ma tw376 (p := 17) rfl
            have c407 := sf_ma tw376 (p := 82) rfl
            have c408 := sf_ma tw376 (p := 18) rfl
            have c409 := sf_ma tw376 (p := 83) rfl
            have c410 := sf_ma tw376 (p := 19) rfl
            have c411 := sf_ma tw376 (p := 84) rfl
            have c412 := sf_ma tw376 (p := 20) rfl
            have c413 := sf_ma tw376 (p := 85) rfl
            have c414 := sf_ma tw376 (p := 24) rfl
            have c415 := sf_ma tw376 (p := 86) rfl
            have c416 := sf_ma tw376 (p := 25) rfl
            have c417 := sf_ma tw376 (p := 87) rfl
            have c418 := sf_ma tw376 (p := 23) rfl
            have c419 := sf_ma tw376 (p := 88) rfl
            have c420 := sf_ma tw376 (p := 26) rfl
            have c421 := sf_ma tw376 (p := 89) rfl
            have c422 := sf_ma tw376 (p := 27) rfl
            have c423 := sf_ma tw376 (p := 90) rfl
            have c424 := sf_ma tw376 (p := 36) rfl
            have c425 := sf_ma tw376 (p := 102) rfl
            have c426 := sf_ma tw376 (p := 37) rfl
            have c427 := sf_ma tw376 (p := 103) rfl
            have c428 := sf_mf tw376 (p := 60) (j := 0) rfl
            have c429 := sf_ma tw376 (p := 61) rfl
            have c430 := sf_ma tw376 (p := 62) rfl
            have c431 := sf_ma tw376 (p := 63) rfl
            have c432 := sf_ma tw376 (p := 65) rfl
            have c433 := sf_ma tw376 (p := 66) rfl
            have c434 := sf_mf tw376 (p := 71) (j := 56) rfl
            have c435 := sf_ma tw376 (p := 121) rfl
            have c436 := sf_ma tw376 (p := 122) rfl
            have c437 := sf_ma tw376 (p := 123) rfl
            have c438 := sf_ma tw376 (p := 125) rfl
            have c439 := sf_ma tw376 (p := 126) rfl
            have c440 := sf_ma tw376 (p := 38) rfl
            have c441 := sf_ma tw376 (p := 40) rfl
            have c442 := sf_ma tw376 (p := 41) rfl
            have c443 := sf_ma tw376 (p := 42) rfl
            have c444 := sf_ma tw376 (p := 43) rfl
            have c445 := sf_ma tw376 (p := 44) rfl
            have c446 := sf_ma tw376 (p := 47) rfl
            have c447 := sf_ma tw376 (p := 104) rfl
            have c448 := sf_ma tw376 (p := 106) rfl
            have c449 := sf_ma tw376 (p := 113) rfl
            have c450 := sf_ma tw376 (p := 107) rfl
            have c451 := sf_ma tw376 (p := 108) rfl
            have c452 := sf_ma tw376 (p := 110) rfl
            have c453 := sf_ma tw376 (p := 109) rfl
            have c454 := sf_mf tw376 (p := 71) (j := 41) rfl
            have c455 := sf_ma tw376 (p := 68) rfl
            have c456 := sf_ma tw376 (p := 69) rfl
            have c457 := sf_ma tw376 (p := 70) rfl
            have c458 := sf_ma tw376 (p := 127) rfl
            have c459 := sf_ma tw376 (p := 128) rfl
            have c460 := sf_ma tw376 (p := 129) rfl
            have F1 := q377_0
            have F2 := q377_1
            clear q377_0 q377_1
            refine sf_istore (L' := [(0, .inl (.ref 100000)), (1, .inl (.ref 0)), (2, .inl (.ref 71)), (3, .inl (.ref 130)), (4, .inl (.int x4))]) rfl ?_
            refine sf_aload rfl ?_
            refine sf_aload rfl ?_
            refine sf_iload rfl ?_
            refine sf_iconst sf_c1 (fun z461 ez461 => ?_)
            refine sf_iadd (by omega) (fun v462 ev462 => ?_)
            refine sf_sldk (x := x4) (k := 1) (by omega) (by omega) (by omega) ?_
            clear ev462 ez461
            refine sf_aload rfl ?_
            refine sf_iload rfl ?_
            refine sf_iconst sf_c2 (fun z463 ez463 => ?_)
            refine sf_iadd (by omega) (fun v464 ev464 => ?_)
            refine sf_sldk (x := x4) (k := 2) (by omega) (by omega) (by omega) ?_
            clear ev464 ez463
            refine sf_aload rfl ?_
            refine sf_iload rfl ?_
            refine sf_iconst sf_c3 (fun z465 ez465 => ?_)
            refine sf_iadd (by omega) (fun v466 ev466 => ?_)
            refine sf_sldk (x := x4) (k := 3) (by omega) (by omega) (by omega) ?_
            clear ev466 ez465
            refine sf_callv4 rfl (by omega) (by omega) ?_
            refine sf_rv Iw376 rfl ?_
            refine sc_M_fact Iw376  (fun v467 w468 Iw468 tw468 lv467 uv467 q469_0 q469_1 => ?_)
            rw [c390] at q469_0
            rw [c390] at q469_1
            have c470 := sf_mf tw468 (p := 1) (j := 0) rfl
            have c471 := sf_mf tw468 (p := 71) (j := 1) rfl
            have c472 := sf_mf tw468 (p := 1) (j := 5) rfl
            have c473 := sf_mf tw468 (p := 71) (j := 5) rfl
            have c474 := sf_mf tw468 (p := 13) (j := 1) rfl
            have c475 := sf_mf tw468 (p := 71) (j := 10) rfl
            have c476 := sf_mf tw468 (p := 21) (j := 1) rfl
            have c477 := sf_mf tw468 (p := 71) (j := 18) rfl
            have c478 := sf_mf tw468 (p := 35) (j := 0) rfl
            have c479 := sf_mf tw468 (p := 71) (j := 35) rfl
            have c480 := sf_ma tw468 (p := 3) rfl
            have c481 := sf_ma tw468 (p := 72) rfl
            have c482 := sf_mg tw468 (p := 10) rfl
            have c483 := sf_mL tw468 (p := 130) rfl
            have c484 := sf_ma tw468 (p := 2) rfl
            have c485 := sf_ma tw468 (p := 6) rfl
            have c486 := sf_ma tw468 (p := 75) rfl
            have c487 := sf_ma tw468 (p := 7) rfl
            have c488 := sf_ma tw468 (p := 76) rfl
            have c489 := sf_ma tw468 (p := 8) rfl
            have c490 := sf_ma tw468 (p := 77) rfl
            have c491 := sf_ma tw468 (p := 9) rfl
            have c492 := sf_ma tw468 (p := 78) rfl
            have c493 := sf_ma tw468 (p := 14) rfl
            have c494 := sf_ma tw468 (p := 79) rfl
            have c495 := sf_ma tw468 (p := 15) rfl
            have c496 := sf_ma tw468 (p := 80) rfl
            have c497 := sf_ma tw468 (p := 16) rfl
            have c498 := sf_ma tw468 (p := 81) rfl
            have c499 := sf_ma tw468 (p := 17) rfl
            have c500 := sf_ma tw468 (p := 82) rfl
            have c501 := sf_ma tw468 (p := 18) rfl
            have c502 := sf_ma tw468 (p := 83) rfl
            have c503 := sf_ma tw468 (p := 19) rfl
            have c504 := sf_ma tw468 (p := 84) rfl
            have c505 := sf_ma tw468 (p := 20) rfl
            have c506 := sf_ma tw468 (p := 85) rfl
            have c507 := sf_ma tw468 (p := 24) rfl
            have c508 := sf_ma tw468 (p := 86) rfl
            have c509 := sf_ma tw468 (p := 25) rfl
            have c510 := sf_ma tw468 (p := 87) rfl
            have c511 := sf_ma tw468 (p := 23) rfl
            have c512 := sf_ma tw468 (p := 88) rfl
            have c513 := sf_ma tw468 (p := 26) rfl
            have c514 := sf_ma tw468 (p := 89) rfl
            have c515 := sf_ma tw468 (p := 27) rfl
            have c516 := sf_ma tw468 (p := 90) rfl
            have c517 := sf_ma tw468 (p := 36) rfl
            have c518 := sf_ma tw468 (p := 102) rfl
            have c519 := sf_ma tw468 (p := 37) rfl
            have c520 := sf_ma tw468 (p := 103) rfl
            have c521 := sf_mf tw468 (p := 60) (j := 0) rfl
            have c522 := sf_ma tw468 (p := 61) rfl
            have c523 := sf_ma tw468 (p := 62) rfl
            have c524 := sf_ma tw468 (p := 63) rfl
            have c525 := sf_ma tw468 (p := 65) rfl
            have c526 := sf_ma tw468 (p := 66) rfl
            have c527 := sf_mf tw468 (p := 71) (j := 56) rfl
            have c528 := sf_ma tw468 (p := 121) rfl
            have c529 := sf_ma tw468 (p := 122) rfl
            have c530 := sf_ma tw468 (p := 123) rfl
            have c531 := sf_ma tw468 (p := 125) rfl
            have c532 := sf_ma tw468 (p := 126) rfl
            have c533 := sf_ma tw468 (p := 38) rfl
            have c534 := sf_ma tw468 (p := 40) rfl
            have c535 := sf_ma tw468 (p := 41) rfl
            have c536 := sf_ma tw468 (p := 42) rfl
            have c537 := sf_ma tw468 (p := 43) rfl
            have c538 := sf_ma tw468 (p := 44) rfl
            have c539 := sf_ma tw468 (p := 47) rfl
            have c540 := sf_ma tw468 (p := 104) rfl
            have c541 := sf_ma tw468 (p := 106) rfl
            have c542 := sf_ma tw468 (p := 113) rfl
            have c543 := sf_ma tw468 (p := 107) rfl
            have c544 := sf_ma tw468 (p := 108) rfl
            have c545 := sf_ma tw468 (p := 110) rfl
            have c546 := sf_ma tw468 (p := 109) rfl
            have c547 := sf_mf tw468 (p := 71) (j := 41) rfl
            have c548 := sf_ma tw468 (p := 68) rfl
            have c549 := sf_ma tw468 (p := 69) rfl
            have c550 := sf_ma tw468 (p := 70) rfl
            have c551 := sf_ma tw468 (p := 127) rfl
            have c552 := sf_ma tw468 (p := 128) rfl
            have c553 := sf_ma tw468 (p := 129) rfl
            have G1 := q469_0
            have G2 := q469_1
            clear q469_0 q469_1
            have hK2 : sf_K (sf_g w376 10) (sf_a w468 93) := by
              rcases F2 with ⟨h1, h2⟩ | ⟨h1, h2, h3⟩ <;> rcases G2 with ⟨g1, g2⟩ | ⟨g1, g2, g3⟩
              · rw [h2, g2]; exact f_2
              · exfalso; omega
              · exfalso; omega
              · rw [h2, g2]; exact sf_KF f_2 (by omega) (by omega)
            have hKv : v375.toInt = 0 → (sf_g w 10 (xs (x4.toInt.toNat + 1)).toInt.toNat (xs (x4.toInt.toNat + 2)).toInt.toNat).toInt = (sf_a w 93 (8 * (xs (x4.toInt.toNat + 1)).toInt + (xs (x4.toInt.toNat + 2)).toInt).toNat).toInt := fun h1 => sf_Kv f_2 (by omega) (by omega)
            clear F2 G2
            refine sf_istore (L' := [(5, .inl (.int v375)), (0, .inl (.ref 100000)), (1, .inl (.ref 0)), (2, .inl (.ref 71)), (3, .inl (.ref 130)), (4, .inl (.int x4))]) rfl ?_
            show kt_W_law_1404 N xs K _ _ _ _ _
            refine sf_iinc (L' := [(6, .inl (.int v467)), (5, .inl (.int v375)), (0, .inl (.ref 100000)), (1, .inl (.ref 0)), (2, .inl (.ref 71)), (3, .inl (.ref 130))]) (x := x4) sf_c8 rfl rfl (by omega) (fun v554 ev554 => ?_)
            refine sf_can (L' := [(0, .inl (.ref 100000)), (1, .inl (.ref 0)), (2, .inl (.ref 71)), (3, .inl (.ref 130)), (4, .inl (.int v554))]) rfl ?_
            exact ih _ _ _ _ Iw468 (by omega) (by omega) (by omega) (by omega) (by rw [c470, c378]; rw [c471, c379]; rw [c472, c380]; rw [c473, c381]; rw [c474, c382]; rw [c475, c383]; rw [c476, c384]; rw [c477, c385]; rw [c478, c386]; rw [c479, c387]; omega) (by rw [c480, c388]; rw [c481, c389]; rw [c471, c379]; first | exact f_1 | exact hJ) (by rw [c482]; first | exact f_2 | exact hK2) (by rw [c484, c391]; rw [c481, c389]; rw [c471, c379]; first | exact f_3 | exact hQ2) (by rw [c485, c392]; rw [c486, c393]; rw [c473, c381]; first | exact f_4 | exact hQ6) (by rw [c487, c394]; rw [c488, c395]; rw [c473, c381]; first | exact f_5 | exact hQ7) (by rw [c489, c396]; rw [c490, c397]; rw [c473, c381]; first | exact f_6 | exact hQ8) (by rw [c491, c398]; rw [c492, c399]; rw [c473, c381]; first | exact f_7 | exact hQ9) (by rw [c493, c400]; rw [c494, c401]; rw [c475, c383]; first | exact f_8 | exact hQ14) (by rw [c495, c402]; rw [c496, c403]; rw [c475, c383]; first | exact f_9 | exact hQ15) (by rw [c497, c404]; rw [c498, c405]; rw [c475, c383]; first | exact f_10 | exact hQ16) (by rw [c499, c406]; rw [c500, c407]; rw [c475, c383]; first | exact f_11 | exact hQ17) (by rw [c501, c408]; rw [c502, c409]; rw [c475, c383]; first | exact f_12 | exact hQ18) (by rw [c503, c410]; rw [c504, c411]; rw [c475, c383]; first | exact f_13 | exact hQ19) (by rw [c505, c412]; rw [c506, c413]; rw [c475, c383]; first | exact f_14 | exact hQ20) (by rw [c507, c414]; rw [c508, c415]; rw [c477, c385]; first | exact f_15 | exact hQ24) (by rw [c509, c416]; rw [c510, c417]; rw [c477, c385]; first | exact f_16 | exact hQ25) (by rw [c511, c418]; rw [c512, c419]; rw [c477, c385]; first | exact f_17 | exact hQ23) (by rw [c513, c420]; rw [c514, c421]; rw [c477, c385]; first | exact f_18 | exact hQ26) (by rw [c515, c422]; rw [c516, c423]; rw [c477, c385]; first | exact f_19 | exact hQ27) (by rw [c517, c424]; rw [c518, c425]; rw [c479, c387]; first | exact f_20 | exact hQ36) (by rw [c519, c426]; rw [c520, c427]; rw [c479, c387]; first | exact f_21 | exact hQ37) (by rw [c521, c428]; rw [c527, c434]; rw [c522, c429]; rw [c523, c430]; rw [c524, c431]; rw [c525, c432]; rw [c526, c433]; rw [c528, c435]; rw [c529, c436]; rw [c530, c437]; rw [c531, c438]; rw [c532, c439]; exact f_22) (by rw [c533, c440]; rw [c540, c447]; rw [c534, c441]; rw [c541, c448]; rw [c536, c443]; rw [c543, c450]; rw [c537, c444]; rw [c544, c451]; rw [c539, c446]; rw [c546, c453]; rw [c538, c445]; rw [c545, c452]; exact f_23) (by rw [c534, c441]; rw [c533, c440]; rw [c535, c442]; rw [c542, c449]; exact f_24) (by rw [c518, c425]; rw [c520, c427]; rw [c541, c448]; rw [c479, c387]; rw [c547, c454]; exact f_25) (by rw [c541, c448]; rw [c479, c387]; exact f_26) (by rw [c548, c455]; rw [c551, c458]; rw [c549, c456]; rw [c552, c459]; rw [c550, c457]; rw [c553, c460]; exact f_27) (by omega)
          · clear h368
            refine sf_sw1 sf_c3 (fun h555 => ?_) (fun h555 => ?_)
            · refine sf_aload rfl ?_
              refine sf_aload rfl ?_
              refine sf_iload rfl ?_
              refine sf_iconst sf_c1 (fun z556 ez556 => ?_)
              refine sf_iadd (by omega) (fun v557 ev557 => ?_)
              refine sf_sldk (x := x4) (k := 1) (by omega) (by omega) (by omega) ?_
              clear ev557 ez556
              refine sf_aload rfl ?_
              refine sf_callv3 rfl (by omega) (by omega) ?_
              refine sc_W_classify_0_130 I_w (by exact sf_JQ f_1 f_3 (by omega)) (fun v558 w559 Iw559 tw559 lv558 uv558 q560_0 => ?_)
              have c561 := sf_mf tw559 (p := 1) (j := 0) rfl
              have c562 := sf_mf tw559 (p := 71) (j := 1) rfl
              have c563 := sf_mf tw559 (p := 1) (j := 5) rfl
              have c564 := sf_mf tw559 (p := 71) (j := 5) rfl
              have c565 := sf_mf tw559 (p := 13) (j := 1) rfl
              have c566 := sf_mf tw559 (p := 71) (j := 10) rfl
              have c567 := sf_mf tw559 (p := 21) (j := 1) rfl
              have c568 := sf_mf tw559 (p := 71) (j := 18) rfl
              have c569 := sf_mf tw559 (p := 35) (j := 0) rfl
              have c570 := sf_mf tw559 (p := 71) (j := 35) rfl
              have c571 := sf_ma tw559 (p := 3) rfl
              have c572 := sf_ma tw559 (p := 72) rfl
              have c573 := sf_mg tw559 (p := 10) rfl
              have c574 := sf_ma tw559 (p := 93) rfl
              have c575 := sf_ma tw559 (p := 2) rfl
              have c576 := sf_ma tw559 (p := 6) rfl
              have c577 := sf_ma tw559 (p := 75) rfl
              have c578 := sf_ma tw559 (p := 7) rfl
              have c579 := sf_ma tw559 (p := 76) rfl
              have c580 := sf_ma tw559 (p := 8) rfl
              have c581 := sf_ma tw559 (p := 77) rfl
              have c582 := sf_ma tw559 (p := 9) rfl
              have c583 := sf_ma tw559 (p := 78) rfl
              have c584 := sf_ma tw559 (p := 14) rfl
              have c585 := sf_ma tw559 (p := 79) rfl
              have c586 := sf_ma tw559 (p := 15) rfl
              have c587 := sf_ma tw559 (p := 80) rfl
              have c588 := sf_ma tw559 (p := 16) rfl
              have c589 := sf_ma tw559 (p := 81) rfl
              have c590 := sf_ma tw559 (p := 17) rfl
              have c591 := sf_ma tw559 (p := 82) rfl
              have c592 := sf_ma tw559 (p := 18) rfl
              have c593 := sf_ma tw559 (p := 83) rfl
              have c594 := sf_ma tw559 (p := 19) rfl
              have c595 := sf_ma tw559 (p := 84) rfl
              have c596 := sf_ma tw559 (p := 20) rfl
              have c597 := sf_ma tw559 (p := 85) rfl
              have c598 := sf_ma tw559 (p := 24) rfl
              have c599 := sf_ma tw559 (p := 86) rfl
              have c600 := sf_ma tw559 (p := 25) rfl
              have c601 := sf_ma tw559 (p := 87) rfl
              have c602 := sf_ma tw559 (p := 23) rfl
              have c603 := sf_ma tw559 (p := 88) rfl
              have c604 := sf_ma tw559 (p := 26) rfl
              have c605 := sf_ma tw559 (p := 89) rfl
              have c606 := sf_ma tw559 (p := 27) rfl
              have c607 := sf_ma tw559 (p := 90) rfl
              have c608 := sf_ma tw559 (p := 36) rfl
              have c609 := sf_ma tw559 (p := 102) rfl
              have c610 := sf_ma tw559 (p := 37) rfl
              have c611 := sf_ma tw559 (p := 103) rfl
              have c612 := sf_mf tw559 (p := 60) (j := 0) rfl
              have c613 := sf_ma tw559 (p := 61) rfl
              have c614 := sf_ma tw559 (p := 62) rfl
              have c615 := sf_ma tw559 (p := 63) rfl
              have c616 := sf_ma tw559 (p := 65) rfl
              have c617 := sf_ma tw559 (p := 66) rfl
              have c618 := sf_mf tw559 (p := 71) (j := 56) rfl
              have c619 := sf_ma tw559 (p := 121) rfl
              have c620 := sf_ma tw559 (p := 122) rfl
              have c621 := sf_ma tw559 (p := 123) rfl
              have c622 := sf_ma tw559 (p := 125) rfl
              have c623 := sf_ma tw559 (p := 126) rfl
              have c624 := sf_ma tw559 (p := 38) rfl
              have c625 := sf_ma tw559 (p := 40) rfl
              have c626 := sf_ma tw559 (p := 41) rfl
              have c627 := sf_ma tw559 (p := 42) rfl
              have c628 := sf_ma tw559 (p := 43) rfl
              have c629 := sf_ma tw559 (p := 44) rfl
              have c630 := sf_ma tw559 (p := 47) rfl
              have c631 := sf_ma tw559 (p := 104) rfl
              have c632 := sf_ma tw559 (p := 106) rfl
              have c633 := sf_ma tw559 (p := 113) rfl
              have c634 := sf_ma tw559 (p := 107) rfl
              have c635 := sf_ma tw559 (p := 108) rfl
              have c636 := sf_ma tw559 (p := 110) rfl
              have c637 := sf_ma tw559 (p := 109) rfl
              have c638 := sf_mf tw559 (p := 71) (j := 41) rfl
              have c639 := sf_ma tw559 (p := 68) rfl
              have c640 := sf_ma tw559 (p := 69) rfl
              have c641 := sf_ma tw559 (p := 70) rfl
              have c642 := sf_ma tw559 (p := 127) rfl
              have c643 := sf_ma tw559 (p := 128) rfl
              have c644 := sf_ma tw559 (p := 129) rfl
              have F1 := q560_0
              refine sf_istore (L' := [(0, .inl (.ref 100000)), (1, .inl (.ref 0)), (2, .inl (.ref 71)), (3, .inl (.ref 130)), (4, .inl (.int x4))]) rfl ?_
              refine sf_aload rfl ?_
              refine sf_aload rfl ?_
              refine sf_iload rfl ?_
              refine sf_iconst sf_c1 (fun z645 ez645 => ?_)
              refine sf_iadd (by omega) (fun v646 ev646 => ?_)
              refine sf_sldk (x := x4) (k := 1) (by omega) (by omega) (by omega) ?_
              clear ev646 ez645
              refine sf_callv2 rfl (by omega) (by omega) ?_
              refine sf_rv Iw559 rfl ?_
              refine sc_M_classify Iw559 (by rw [c571]; rw [c572]; rw [c562]; exact f_1) (fun v647 w648 Iw648 tw648 lv647 uv647 q649_0 => ?_)
              rw [c571] at q649_0
              rw [c572] at q649_0
              rw [c577] at q649_0
              rw [c579] at q649_0
              rw [c581] at q649_0
              rw [c583] at q649_0
              rw [c574] at q649_0
              rw [c562] at q649_0
              rw [c564] at q649_0
              have c650 := sf_mf tw648 (p := 1) (j := 0) rfl
              have c651 := sf_mf tw648 (p := 71) (j := 1) rfl
              have c652 := sf_mf tw648 (p := 1) (j := 5) rfl
              have c653 := sf_mf tw648 (p := 71) (j := 5) rfl
              have c654 := sf_mf tw648 (p := 13) (j := 1) rfl
              have c655 := sf_mf tw648 (p := 71) (j := 10) rfl
              have c656 := sf_mf tw648 (p := 21) (j := 1) rfl
              have c657 := sf_mf tw648 (p := 71) (j := 18) rfl
              have c658 := sf_mf tw648 (p := 35) (j := 0) rfl
              have c659 := sf_mf tw648 (p := 71) (j := 35) rfl
              have c660 := sf_ma tw648 (p := 3) rfl
              have c661 := sf_ma tw648 (p := 72) rfl
              have c662 := sf_mg tw648 (p := 10) rfl
              have c663 := sf_ma tw648 (p := 93) rfl
              have c664 := sf_mL tw648 (p := 130) rfl
              have c665 := sf_ma tw648 (p := 2) rfl
              have c666 := sf_ma tw648 (p := 6) rfl
              have c667 := sf_ma tw648 (p := 75) rfl
              have c668 := sf_ma tw648 (p := 7) rfl
              have c669 := sf_ma tw648 (p := 76) rfl
              have c670 := sf_ma tw648 (p := 8) rfl
              have c671 := sf_ma tw648 (p := 77) rfl
              have c672 := sf_ma tw648 (p := 9) rfl
              have c673 := sf_ma tw648 (p := 78) rfl
              have c674 := sf_ma tw648 (p := 14) rfl
              have c675 := sf_ma tw648 (p := 79) rfl
              have c676 := sf_ma tw648 (p := 15) rfl
              have c677 := sf_ma tw648 (p := 80) rfl
              have c678 := sf_ma tw648 (p := 16) rfl
              have c679 := sf_ma tw648 (p := 81) rfl
              have c680 := sf_ma tw648 (p := 17) rfl
              have c681 := sf_ma tw648 (p := 82) rfl
              have c682 := sf_ma tw648 (p := 18) rfl
              have c683 := sf_ma tw648 (p := 83) rfl
              have c684 := sf_ma tw648 (p := 19) rfl
              have c685 := sf_ma tw648 (p := 84) rfl
              have c686 := sf_ma tw648 (p := 20) rfl
              have c687 := sf_ma tw648 (p := 85) rfl
              have c688 := sf_ma tw648 (p := 24) rfl
              have c689 := sf_ma tw648 (p := 86) rfl
              have c690 := sf_ma tw648 (p := 25) rfl
              have c691 := sf_ma tw648 (p := 87) rfl
              have c692 := sf_ma tw648 (p := 23) rfl
              have c693 := sf_ma tw648 (p := 88) rfl
              have c694 := sf_ma tw648 (p := 26) rfl
              have c695 := sf_ma tw648 (p := 89) rfl
              have c696 := sf_ma tw648 (p := 27) rfl
              have c697 := sf_ma tw648 (p := 90) rfl
              have c698 := sf_ma tw648 (p := 36) rfl
              have c699 := sf_ma tw648 (p := 102) rfl
              have c700 := sf_ma tw648 (p := 37) rfl
              have c701 := sf_ma tw648 (p := 103) rfl
              have c702 := sf_mf tw648 (p := 60) (j := 0) rfl
              have c703 := sf_ma tw648 (p := 61) rfl
              have c704 := sf_ma tw648 (p := 62) rfl
              have c705 := sf_ma tw648 (p := 63) rfl
              have c706 := sf_ma tw648 (p := 65) rfl
              have c707 := sf_ma tw648 (p := 66) rfl
              have c708 := sf_mf tw648 (p := 71) (j := 56) rfl
              have c709 := sf_ma tw648 (p := 121) rfl
              have c710 := sf_ma tw648 (p := 122) rfl
              have c711 := sf_ma tw648 (p := 123) rfl
              have c712 := sf_ma tw648 (p := 125) rfl
              have c713 := sf_ma tw648 (p := 126) rfl
              have c714 := sf_ma tw648 (p := 38) rfl
              have c715 := sf_ma tw648 (p := 40) rfl
              have c716 := sf_ma tw648 (p := 41) rfl
              have c717 := sf_ma tw648 (p := 42) rfl
              have c718 := sf_ma tw648 (p := 43) rfl
              have c719 := sf_ma tw648 (p := 44) rfl
              have c720 := sf_ma tw648 (p := 47) rfl
              have c721 := sf_ma tw648 (p := 104) rfl
              have c722 := sf_ma tw648 (p := 106) rfl
              have c723 := sf_ma tw648 (p := 113) rfl
              have c724 := sf_ma tw648 (p := 107) rfl
              have c725 := sf_ma tw648 (p := 108) rfl
              have c726 := sf_ma tw648 (p := 110) rfl
              have c727 := sf_ma tw648 (p := 109) rfl
              have c728 := sf_mf tw648 (p := 71) (j := 41) rfl
              have c729 := sf_ma tw648 (p := 68) rfl
              have c730 := sf_ma tw648 (p := 69) rfl
              have c731 := sf_ma tw648 (p := 70) rfl
              have c732 := sf_ma tw648 (p := 127) rfl
              have c733 := sf_ma tw648 (p := 128) rfl
              have c734 := sf_ma tw648 (p := 129) rfl
              have G1 := q649_0
              have b40 := (sf_fb I_w (p := 71) (ci := 9) (j := 5) rfl rfl).2
              have hE : 0 ≤ (xs (x4.toInt.toNat + 1)).toInt → (xs (x4.toInt.toNat + 1)).toInt ≤ 15 → sj_B (sp_fi (sf_a w 2) (sf_a w 6) (sf_a w 7) (sf_a w 8) (sf_a w 9) (sp_ag (sf_g w 10) (xs (x4.toInt.toNat + 1)).toInt.toNat) (sf_f w 1 5).toInt.toNat) (sp_d (sf_a w 3)) (sp_sh (sf_a w 2) (sf_a w 6) (sf_a w 7) (sf_a w 8) (sp_ag (sf_g w 10) (xs (x4.toInt.toNat + 1)).toInt.toNat) (sf_f w 1 5).toInt.toNat) (sf_f w 1 0).toInt.toNat = sj_B (sp_fi (sf_a w 72) (sf_a w 75) (sf_a w 76) (sf_a w 77) (sf_a w 78) (sp_aa (sf_a w 93) (xs (x4.toInt.toNat + 1)).toInt.toNat) (sf_f w 71 5).toInt.toNat) (sp_d (sf_a w 3)) (sp_sh (sf_a w 72) (sf_a w 75) (sf_a w 76) (sf_a w 77) (sp_aa (sf_a w 93) (xs (x4.toInt.toNat + 1)).toInt.toNat) (sf_f w 71 5).toInt.toNat) (sf_f w 71 1).toInt.toNat := fun h1 h2 => sp_BE f_1 f_3 f_4 f_5 f_6 f_7 (fun i hi => (sf_arr I_w (p := 77) rfl).2.1 i (by omega)) (fun j hj => congrArg Int32.toInt (f_2 _ j (by omega) hj)) (by omega) (by omega)
              refine sf_istore (L' := [(5, .inl (.int v558)), (0, .inl (.ref 100000)), (1, .inl (.ref 0)), (2, .inl (.ref 71)), (3, .inl (.ref 130)), (4, .inl (.int x4))]) rfl ?_
              show kt_W_law_1404 N xs K _ _ _ _ _
              refine sf_iinc (L' := [(6, .inl (.int v647)), (5, .inl (.int v558)), (0, .inl (.ref 100000)), (1, .inl (.ref 0)), (2, .inl (.ref 71)), (3, .inl (.ref 130))]) (x := x4) sf_c8 rfl rfl (by omega) (fun v735 ev735 => ?_)
              refine sf_can (L' := [(0, .inl (.ref 100000)), (1, .inl (.ref 0)), (2, .inl (.ref 71)), (3, .inl (.ref 130)), (4, .inl (.int v735))]) rfl ?_
              exact ih _ _ _ _ Iw648 (by omega) (by omega) (by omega) (by omega) (by rw [c650, c561]; rw [c651, c562]; rw [c652, c563]; rw [c653, c564]; rw [c654, c565]; rw [c655, c566]; rw [c656, c567]; rw [c657, c568]; rw [c658, c569]; rw [c659, c570]; omega) (by rw [c660, c571]; rw [c661, c572]; rw [c651, c562]; first | exact f_1 | exact hJ) (by rw [c662, c573]; rw [c663, c574]; first | exact f_2 | exact hK2) (by rw [c665, c575]; rw [c661, c572]; rw [c651, c562]; first | exact f_3 | exact hQ2) (by rw [c666, c576]; rw [c667, c577]; rw [c653, c564]; first | exact f_4 | exact hQ6) (by rw [c668, c578]; rw [c669, c579]; rw [c653, c564]; first | exact f_5 | exact hQ7) (by rw [c670, c580]; rw [c671, c581]; rw [c653, c564]; first | exact f_6 | exact hQ8) (by rw [c672, c582]; rw [c673, c583]; rw [c653, c564]; first | exact f_7 | exact hQ9) (by rw [c674, c584]; rw [c675, c585]; rw [c655, c566]; first | exact f_8 | exact hQ14) (by rw [c676, c586]; rw [c677, c587]; rw [c655, c566]; first | exact f_9 | exact hQ15) (by rw [c678, c588]; rw [c679, c589]; rw [c655, c566]; first | exact f_10 | exact hQ16) (by rw [c680, c590]; rw [c681, c591]; rw [c655, c566]; first | exact f_11 | exact hQ17) (by rw [c682, c592]; rw [c683, c593]; rw [c655, c566]; first | exact f_12 | exact hQ18) (by rw [c684, c594]; rw [c685, c595]; rw [c655, c566]; first | exact f_13 | exact hQ19) (by rw [c686, c596]; rw [c687, c597]; rw [c655, c566]; first | exact f_14 | exact hQ20) (by rw [c688, c598]; rw [c689, c599]; rw [c657, c568]; first | exact f_15 | exact hQ24) (by rw [c690, c600]; rw [c691, c601]; rw [c657, c568]; first | exact f_16 | exact hQ25) (by rw [c692, c602]; rw [c693, c603]; rw [c657, c568]; first | exact f_17 | exact hQ23) (by rw [c694, c604]; rw [c695, c605]; rw [c657, c568]; first | exact f_18 | exact hQ26) (by rw [c696, c606]; rw [c697, c607]; rw [c657, c568]; first | exact f_19 | exact hQ27) (by rw [c698, c608]; rw [c699, c609]; rw [c659, c570]; first | exact f_20 | exact hQ36) (by rw [c700, c610]; rw [c701, c611]; rw [c659, c570]; first | exact f_21 | exact hQ37) (by rw [c702, c612]; rw [c708, c618]; rw [c703, c613]; rw [c704, c614]; rw [c705, c615]; rw [c706, c616]; rw [c707, c617]; rw [c709, c619]; rw [c710, c620]; rw [c711, c621]; rw [c712, c622]; rw [c713, c623]; exact f_22) (by rw [c714, c624]; rw [c721, c631]; rw [c715, c625]; rw [c722, c632]; rw [c717, c627]; rw [c724, c634]; rw [c718, c628]; rw [c725, c635]; rw [c720, c630]; rw [c727, c637]; rw [c719, c629]; rw [c726, c636]; exact f_23) (by rw [c715, c625]; rw [c714, c624]; rw [c716, c626]; rw [c723, c633]; exact f_24) (by rw [c699, c609]; rw [c701, c611]; rw [c722, c632]; rw [c659, c570]; rw [c728, c638]; exact f_25) (by rw [c722, c632]; rw [c659, c570]; exact f_26) (by rw [c729, c639]; rw [c732, c642]; rw [c730, c640]; rw [c733, c643]; rw [c731, c641]; rw [c734, c644]; exact f_27) (by omega)
            · clear h555
              refine sf_sw1 sf_c4 (fun h736 => ?_) (fun h736 => ?_)
              · refine sf_aload rfl ?_
                refine sf_aload rfl ?_
                refine sf_iload rfl ?_
                refine sf_iconst sf_c1 (fun z737 ez737 => ?_)
                refine sf_iadd (by omega) (fun v738 ev738 => ?_)
                refine sf_sldk (x := x4) (k := 1) (by omega) (by omega) (by omega) ?_
                clear ev738 ez737
                refine sf_aload rfl ?_
                refine sf_iload rfl ?_
                refine sf_iconst sf_c2 (fun z739 ez739 => ?_)
                refine sf_iadd (by omega) (fun v740 ev740 => ?_)
                refine sf_sldk (x := x4) (k := 2) (by omega) (by omega) (by omega) ?_
                clear ev740 ez739
                refine sf_aload rfl ?_
                refine sf_iload rfl ?_
                refine sf_iconst sf_c3 (fun z741 ez741 => ?_)
                refine sf_iadd (by omega) (fun v742 ev742 => ?_)
                refine sf_sldk (x := x4) (k := 3) (by omega) (by omega) (by omega) ?_
                clear ev742 ez741
                refine sf_aload rfl ?_
                refine sf_iload rfl ?_
                refine sf_iconst sf_c4 (fun z743 ez743 => ?_)
                refine sf_iadd (by omega) (fun v744 ev744 => ?_)
                refine sf_sldk (x := x4) (k := 4) (by omega) (by omega) (by omega) ?_
                clear ev744 ez743
                refine sf_aload rfl ?_
                refine sf_iload rfl ?_
                refine sf_iconst sf_c5 (fun z745 ez745 => ?_)
                refine sf_iadd (by omega) (fun v746 ev746 => ?_)
                refine sf_sldk (x := x4) (k := 5) (by omega) (by omega) (by omega) ?_
                clear ev746 ez745
                refine sf_aload rfl ?_
                refine sf_iload rfl ?_
                refine sf_iconst sf_c6 (fun z747 ez747 => ?_)
                refine sf_iadd (by omega) (fun v748 ev748 => ?_)
                refine sf_sldk (x := x4) (k := 6) (by omega) (by omega) (by omega) ?_
                clear ev748 ez747
                refine sf_aload rfl ?_
                refine sf_iload rfl ?_
                refine sf_iconst sf_c7 (fun z749 ez749 => ?_)
                refine sf_iadd (by omega) (fun v750 ev750 => ?_)
                refine sf_sldk (x := x4) (k := 7) (by omega) (by omega) (by omega) ?_
                clear ev750 ez749
                refine sf_aload rfl ?_
                refine sf_callv9 rfl (by omega) (by omega) ?_
                refine sc_W_rate_0_130 I_w  (fun v751 w752 Iw752 tw752 lv751 uv751 q753_0 q753_1 q753_2 q753_3 q753_4 q753_5 q753_6 q753_7 => ?_)
                have c754 := sf_mf tw752 (p := 1) (j := 0) rfl
                have c755 := sf_mf tw752 (p := 71) (j := 1) rfl
                have c756 := sf_mf tw752 (p := 1) (j := 5) rfl
                have c757 := sf_mf tw752 (p := 71) (j := 5) rfl
                have c758 := sf_mf tw752 (p := 71) (j := 10) rfl
                have c759 := sf_mf tw752 (p := 21) (j := 1) rfl
                have c760 := sf_mf tw752 (p := 71) (j := 18) rfl
                have c761 := sf_mf tw752 (p := 35) (j := 0) rfl
                have c762 := sf_mf tw752 (p := 71) (j := 35) rfl
                have c763 := sf_ma tw752 (p := 3) rfl
                have c764 := sf_ma tw752 (p := 72) rfl
                have c765 := sf_mg tw752 (p := 10) rfl
                have c766 := sf_ma tw752 (p := 93) rfl
                have c767 := sf_ma tw752 (p := 2) rfl
                have c768 := sf_ma tw752 (p := 6) rfl
                have c769 := sf_ma tw752 (p := 75) rfl
                have c770 := sf_ma tw752 (p := 7) rfl
                have c771 := sf_ma tw752 (p := 76) rfl
                have c772 := sf_ma tw752 (p := 8) rfl
                have c773 := sf_ma tw752 (p := 77) rfl
                have c774 := sf_ma tw752 (p := 9) rfl
                have c775 := sf_ma tw752 (p := 78) rfl
                have c776 := sf_ma tw752 (p := 79) rfl
                have c777 := sf_ma tw752 (p := 80) rfl
                have c778 := sf_ma tw752 (p := 81) rfl
                have c779 := sf_ma tw752 (p := 82) rfl
                have c780 := sf_ma tw752 (p := 83) rfl
                have c781 := sf_ma tw752 (p := 84) rfl
                have c782 := sf_ma tw752 (p := 85) rfl
                have c783 := sf_ma tw752 (p := 24) rfl
                have c784 := sf_ma tw752 (p := 86) rfl
                have c785 := sf_ma tw752 (p := 25) rfl
                have c786 := sf_ma tw752 (p := 87) rfl
                have c787 := sf_ma tw752 (p := 23) rfl
                have c788 := sf_ma tw752 (p := 88) rfl
                have c789 := sf_ma tw752 (p := 26) rfl
                have c790 := sf_ma tw752 (p := 89) rfl
                have c791 := sf_ma tw752 (p := 27) rfl
                have c792 := sf_ma tw752 (p := 90) rfl
                have c793 := sf_ma tw752 (p := 36) rfl
                have c794 := sf_ma tw752 (p := 102) rfl
                have c795 := sf_ma tw752 (p := 37) rfl
                have c796 := sf_ma tw752 (p := 103) rfl
                have c797 := sf_mf tw752 (p := 60) (j := 0) rfl
                have c798 := sf_ma tw752 (p := 61) rfl
                have c799 := sf_ma tw752 (p := 62) rfl
                have c800 := sf_ma tw752 (p := 63) rfl
                have c801 := sf_ma tw752 (p := 65) rfl
                have c802 := sf_ma tw752 (p := 66) rfl
                have c803 := sf_mf tw752 (p := 71) (j := 56) rfl
                have c804 := sf_ma tw752 (p := 121) rfl
                have c805 := sf_ma tw752 (p := 122) rfl
                have c806 := sf_ma tw752 (p := 123) rfl
                have c807 := sf_ma tw752 (p := 125) rfl
                have c808 := sf_ma tw752 (p := 126) rfl
                have c809 := sf_ma tw752 (p := 38) rfl
                have c810 := sf_ma tw752 (p := 40) rfl
                have c811 := sf_ma tw752 (p := 41) rfl
                have c812 := sf_ma tw752 (p := 42) rfl
                have c813 := sf_ma tw752 (p := 43) rfl
                have c814 := sf_ma tw752 (p := 44) rfl
                have c815 := sf_ma tw752 (p := 47) rfl
                have c816 := sf_ma tw752 (p := 104) rfl
                have c817 := sf_ma tw752 (p := 106) rfl
                have c818 := sf_ma tw752 (p := 113) rfl
                have c819 := sf_ma tw752 (p := 107) rfl
                have c820 := sf_ma tw752 (p := 108) rfl
                have c821 := sf_ma tw752 (p := 110) rfl
                have c822 := sf_ma tw752 (p := 109) rfl
                have c823 := sf_mf tw752 (p := 71) (j := 41) rfl
                have c824 := sf_ma tw752 (p := 68) rfl
                have c825 := sf_ma tw752 (p := 69) rfl
                have c826 := sf_ma tw752 (p := 70) rfl
                have c827 := sf_ma tw752 (p := 127) rfl
                have c828 := sf_ma tw752 (p := 128) rfl
                have c829 := sf_ma tw752 (p := 129) rfl
                have U14 := q753_1
                have U15 := q753_2
                have U16 := q753_3
                have U17 := q753_4
                have U18 := q753_5
                have U19 := q753_6
                have U20 := q753_7
                clear q753_1 q753_2 q753_3 q753_4 q753_5 q753_6 q753_7
                have F1 := q753_0
                refine sf_istore (L' := [(0, .inl (.ref 100000)), (1, .inl (.ref 0)), (2, .inl (.ref 71)), (3, .inl (.ref 130)), (4, .inl (.int x4))]) rfl ?_
                refine sf_aload rfl ?_
                refine sf_aload rfl ?_
                refine sf_iload rfl ?_
                refine sf_iconst sf_c1 (fun z830 ez830 => ?_)
                refine sf_iadd (by omega) (fun v831 ev831 => ?_)
                refine sf_sldk (x := x4) (k := 1) (by omega) (by omega) (by omega) ?_
                clear ev831 ez830
                refine sf_aload rfl ?_
                refine sf_iload rfl ?_
                refine sf_iconst sf_c2 (fun z832 ez832 => ?_)
                refine sf_iadd (by omega) (fun v833 ev833 => ?_)
                refine sf_sldk (x := x4) (k := 2) (by omega) (by omega) (by omega) ?_
                clear ev833 ez832
                refine sf_aload rfl ?_
                refine sf_iload rfl ?_
                refine sf_iconst sf_c3 (fun z834 ez834 => ?_)
                refine sf_iadd (by omega) (fun v835 ev835 => ?_)
                refine sf_sldk (x := x4) (k := 3) (by omega) (by omega) (by omega) ?_
                clear ev835 ez834
                refine sf_aload rfl ?_
                refine sf_iload rfl ?_
                refine sf_iconst sf_c4 (fun z836 ez836 => ?_)
                refine sf_iadd (by omega) (fun v837 ev837 => ?_)
                refine sf_sldk (x := x4) (k := 4) (by omega) (by omega) (by omega) ?_
                clear ev837 ez836
                refine sf_aload rfl ?_
                refine sf_iload rfl ?_
                refine sf_iconst sf_c5 (fun z838 ez838 => ?_)
                refine sf_iadd (by omega) (fun v839 ev839 => ?_)
                refine sf_sldk (x := x4) (k := 5) (by omega) (by omega) (by omega) ?_
                clear ev839 ez838
                refine sf_aload rfl ?_
                refine sf_iload rfl ?_
                refine sf_iconst sf_c6 (fun z840 ez840 => ?_)
                refine sf_iadd (by omega) (fun v841 ev841 => ?_)
                refine sf_sldk (x := x4) (k := 6) (by omega) (by omega) (by omega) ?_
                clear ev841 ez840
                refine sf_aload rfl ?_
                refine sf_iload rfl ?_
                refine sf_iconst sf_c7 (fun z842 ez842 => ?_)
                refine sf_iadd (by omega) (fun v843 ev843 => ?_)
                refine sf_sldk (x := x4) (k := 7) (by omega) (by omega) (by omega) ?_
                clear ev843 ez842
                refine sf_callv8 rfl (by omega) (by omega) ?_
                refine sf_rv Iw752 rfl ?_
                refine sc_M_rate Iw752  (fun v844 w845 Iw845 tw845 lv844 uv844 q846_0 q846_1 q846_2 q846_3 q846_4 q846_5 q846_6 q846_7 => ?_)
                rw [c755] at q846_0
                rw [c758] at q846_0
                rw [c776] at q846_1
                rw [c758] at q846_1
                rw [c777] at q846_2
                rw [c758] at q846_2
                rw [c778] at q846_3
                rw [c758] at q846_3
                rw [c779] at q846_4
                rw [c758] at q846_4
                rw [c780] at q846_5
                rw [c758] at q846_5
                rw [c781] at q846_6
                rw [c758] at q846_6
                rw [c782] at q846_7
                rw [c758] at q846_7
                have c847 := sf_mf tw845 (p := 1) (j := 0) rfl
                have c848 := sf_mf tw845 (p := 71) (j := 1) rfl
                have c849 := sf_mf tw845 (p := 1) (j := 5) rfl
                have c850 := sf_mf tw845 (p := 71) (j := 5) rfl
                have c851 := sf_mf tw845 (p := 13) (j := 1) rfl
                have c852 := sf_mf tw845 (p := 21) (j := 1) rfl
                have c853 := sf_mf tw845 (p := 71) (j := 18) rfl
                have c854 := sf_mf tw845 (p := 35) (j := 0) rfl
                have c855 := sf_mf tw845 (p := 71) (j := 35) rfl
                have c856 := sf_ma tw845 (p := 3) rfl
                have c857 := sf_ma tw845 (p := 72) rfl
                have c858 := sf_mg tw845 (p := 10) rfl
                have c859 := sf_ma tw845 (p := 93) rfl
                have c860 := sf_mL tw845 (p := 130) rfl
                have c861 := sf_ma tw845 (p := 2) rfl
                have c862 := sf_ma tw845 (p := 6) rfl
                have c863 := sf_ma tw845 (p := 75) rfl
                have c864 := sf_ma tw845 (p := 7) rfl
                have c865 := sf_ma tw845 (p := 76) rfl
                have c866 := sf_ma tw845 (p := 8) rfl
                have c867 := sf_ma tw845 (p := 77) rfl
                have c868 := sf_ma tw845 (p := 9) rfl
                have c869 := sf_ma tw845 (p := 78) rfl
                have c870 := sf_ma tw845 (p := 14) rfl
                have c871 := sf_ma tw845 (p := 15) rfl
                have c872 := sf_ma tw845 (p := 16) rfl
                have c873 := sf_ma tw845 (p := 17) rfl
                have c874 := sf_ma tw845 (p := 18) rfl
                have c875 := sf_ma tw845 (p := 19) rfl
                have c876 := sf_ma tw845 (p := 20) rfl
                have c877 := sf_ma tw845 (p := 24) rfl
                have c878 := sf_ma tw845 (p := 86) rfl
                have c879 := sf_ma tw845 (p := 25) rfl
                have c880 := sf_ma tw845 (p := 87) rfl
                have c881 := sf_ma tw845 (p := 23) rfl
                have c882 := sf_ma tw845 (p := 88) rfl
                have c883 := sf_ma tw845 (p := 26) rfl
                have c884 := sf_ma tw845 (p := 89) rfl
                have c885 := sf_ma tw845 (p := 27) rfl
                have c886 := sf_ma tw845 (p := 90) rfl
                have c887 := sf_ma tw845 (p := 36) rfl
                have c888 := sf_ma tw845 (p := 102) rfl
                have c889 := sf_ma tw845 (p := 37) rfl
                have c890 := sf_ma tw845 (p := 103) rfl
                have c891 := sf_mf tw845 (p := 60) (j := 0) rfl
                have c892 := sf_ma tw845 (p := 61) rfl
                have c893 := sf_ma tw845 (p := 62) rfl
                have c894 := sf_ma tw845 (p := 63) rfl
                have c895 := sf_ma tw845 (p := 65) rfl
                have c896 := sf_ma tw845 (p := 66) rfl
                have c897 := sf_mf tw845 (p := 71) (j := 56) rfl
                have c898 := sf_ma tw845 (p := 121) rfl
                have c899 := sf_ma tw845 (p := 122) rfl
                have c900 := sf_ma tw845 (p := 123) rfl
                have c901 := sf_ma tw845 (p := 125) rfl
                have c902 := sf_ma tw845 (p := 126) rfl
                have c903 := sf_ma tw845 (p := 38) rfl
                have c904 := sf_ma tw845 (p := 40) rfl
                have c905 := sf_ma tw845 (p := 41) rfl
                have c906 := sf_ma tw845 (p := 42) rfl
                have c907 := sf_ma tw845 (p := 43) rfl
                have c908 := sf_ma tw845 (p := 44) rfl
                have c909 := sf_ma tw845 (p := 47) rfl
                have c910 := sf_ma tw845 (p := 104) rfl
                have c911 := sf_ma tw845 (p := 106) rfl
                have c912 := sf_ma tw845 (p := 113) rfl
                have c913 := sf_ma tw845 (p := 107) rfl
                have c914 := sf_ma tw845 (p := 108) rfl
                have c915 := sf_ma tw845 (p := 110) rfl
                have c916 := sf_ma tw845 (p := 109) rfl
                have c917 := sf_mf tw845 (p := 71) (j := 41) rfl
                have c918 := sf_ma tw845 (p := 68) rfl
                have c919 := sf_ma tw845 (p := 69) rfl
                have c920 := sf_ma tw845 (p := 70) rfl
                have c921 := sf_ma tw845 (p := 127) rfl
                have c922 := sf_ma tw845 (p := 128) rfl
                have c923 := sf_ma tw845 (p := 129) rfl
                have U79 := q846_1
                have U80 := q846_2
                have U81 := q846_3
                have U82 := q846_4
                have U83 := q846_5
                have U84 := q846_6
                have U85 := q846_7
                clear q846_1 q846_2 q846_3 q846_4 q846_5 q846_6 q846_7
                have G1 := q846_0
                have hrc : v751.toInt = (sf_f w845 71 0).toInt := by omega
                have hcn : (v751.toInt = 0 ∧ (sf_f w845 71 10).toInt = (sf_f w 71 10).toInt + 1) ∨ (v751.toInt ≠ 0 ∧ (sf_f w845 71 10).toInt = (sf_f w 71 10).toInt) := by omega
                have hQ14 := sf_QH f_8 U14 U79 (by omega) hrc hcn
                have hQ15 := sf_QH f_9 U15 U80 (by omega) hrc hcn
                have hQ16 := sf_QH f_10 U16 U81 (by omega) hrc hcn
                have hQ17 := sf_QH f_11 U17 U82 (by omega) hrc hcn
                have hQ18 := sf_QH f_12 U18 U83 (by omega) hrc hcn
                have hQ19 := sf_QH f_13 U19 U84 (by omega) hrc hcn
                have hQ20 := sf_QH f_14 U20 U85 (by omega) hrc hcn
                refine sf_istore (L' := [(5, .inl (.int v751)), (0, .inl (.ref 100000)), (1, .inl (.ref 0)), (2, .inl (.ref 71)), (3, .inl (.ref 130)), (4, .inl (.int x4))]) rfl ?_
                show kt_W_law_1404 N xs K _ _ _ _ _
                refine sf_iinc (L' := [(6, .inl (.int v844)), (5, .inl (.int v751)), (0, .inl (.ref 100000)), (1, .inl (.ref 0)), (2, .inl (.ref 71)), (3, .inl (.ref 130))]) (x := x4) sf_c8 rfl rfl (by omega) (fun v924 ev924 => ?_)
                refine sf_can (L' := [(0, .inl (.ref 100000)), (1, .inl (.ref 0)), (2, .inl (.ref 71)), (3, .inl (.ref 130)), (4, .inl (.int v924))]) rfl ?_
                exact ih _ _ _ _ Iw845 (by omega) (by omega) (by omega) (by omega) (by rw [c847, c754]; rw [c848, c755]; rw [c849, c756]; rw [c850, c757]; rw [c851]; rw [c852, c759]; rw [c853, c760]; rw [c854, c761]; rw [c855, c762]; omega) (by rw [c856, c763]; rw [c857, c764]; rw [c848, c755]; first | exact f_1 | exact hJ) (by rw [c858, c765]; rw [c859, c766]; first | exact f_2 | exact hK2) (by rw [c861, c767]; rw [c857, c764]; rw [c848, c755]; first | exact f_3 | exact hQ2) (by rw [c862, c768]; rw [c863, c769]; rw [c850, c757]; first | exact f_4 | exact hQ6) (by rw [c864, c770]; rw [c865, c771]; rw [c850, c757]; first | exact f_5 | exact hQ7) (by rw [c866, c772]; rw [c867, c773]; rw [c850, c757]; first | exact f_6 | exact hQ8) (by rw [c868, c774]; rw [c869, c775]; rw [c850, c757]; first | exact f_7 | exact hQ9) (by rw [c870]; first | exact f_8 | exact hQ14) (by rw [c871]; first | exact f_9 | exact hQ15) (by rw [c872]; first | exact f_10 | exact hQ16) (by rw [c873]; first | exact f_11 | exact hQ17) (by rw [c874]; first | exact f_12 | exact hQ18) (by rw [c875]; first | exact f_13 | exact hQ19) (by rw [c876]; first | exact f_14 | exact hQ20) (by rw [c877, c783]; rw [c878, c784]; rw [c853, c760]; first | exact f_15 | exact hQ24) (by rw [c879, c785]; rw [c880, c786]; rw [c853, c760]; first | exact f_16 | exact hQ25) (by rw [c881, c787]; rw [c882, c788]; rw [c853, c760]; first | exact f_17 | exact hQ23) (by rw [c883, c789]; rw [c884, c790]; rw [c853, c760]; first | exact f_18 | exact hQ26) (by rw [c885, c791]; rw [c886, c792]; rw [c853, c760]; first | exact f_19 | exact hQ27) (by rw [c887, c793]; rw [c888, c794]; rw [c855, c762]; first | exact f_20 | exact hQ36) (by rw [c889, c795]; rw [c890, c796]; rw [c855, c762]; first | exact f_21 | exact hQ37) (by rw [c891, c797]; rw [c897, c803]; rw [c892, c798]; rw [c893, c799]; rw [c894, c800]; rw [c895, c801]; rw [c896, c802]; rw [c898, c804]; rw [c899, c805]; rw [c900, c806]; rw [c901, c807]; rw [c902, c808]; exact f_22) (by rw [c903, c809]; rw [c910, c816]; rw [c904, c810]; rw [c911, c817]; rw [c906, c812]; rw [c913, c819]; rw [c907, c813]; rw [c914, c820]; rw [c909, c815]; rw [c916, c822]; rw [c908, c814]; rw [c915, c821]; exact f_23) (by rw [c904, c810]; rw [c903, c809]; rw [c905, c811]; rw [c912, c818]; exact f_24) (by rw [c888, c794]; rw [c890, c796]; rw [c911, c817]; rw [c855, c762]; rw [c917, c823]; exact f_25) (by rw [c911, c817]; rw [c855, c762]; exact f_26) (by rw [c918, c824]; rw [c921, c827]; rw [c919, c825]; rw [c922, c828]; rw [c920, c826]; rw [c923, c829]; exact f_27) (by omega)
              · clear h736
                refine sf_sw1 sf_c5 (fun h925 => ?_) (fun h925 => ?_)
                · refine sf_aload rfl ?_
                  refine sf_aload rfl ?_
                  refine sf_iload rfl ?_
                  refine sf_iconst sf_c1 (fun z926 ez926 => ?_)
                  refine sf_iadd (by omega) (fun v927 ev927 => ?_)
                  refine sf_sldk (x := x4) (k := 1) (by omega) (by omega) (by omega) ?_
                  clear ev927 ez926
                  refine sf_aload rfl ?_
                  refine sf_iload rfl ?_
                  refine sf_iconst sf_c2 (fun z928 ez928 => ?_)
                  refine sf_iadd (by omega) (fun v929 ev929 => ?_)
                  refine sf_sldk (x := x4) (k := 2) (by omega) (by omega) (by omega) ?_
                  clear ev929 ez928
                  refine sf_aload rfl ?_
                  refine sf_iload rfl ?_
                  refine sf_iconst sf_c3 (fun z930 ez930 => ?_)
                  refine sf_iadd (by omega) (fun v931 ev931 => ?_)
                  refine sf_sldk (x := x4) (k := 3) (by omega) (by omega) (by omega) ?_
                  clear ev931 ez930
                  refine sf_aload rfl ?_
                  refine sf_callv5 rfl (by omega) (by omega) ?_
                  refine sc_W_rateFor_0_130 I_w  (fun v932 w933 Iw933 tw933 lv932 uv932 q934_0 => ?_)
                  have c935 := sf_mf tw933 (p := 1) (j := 0) rfl
                  have c936 := sf_mf tw933 (p := 71) (j := 1) rfl
                  have c937 := sf_mf tw933 (p := 1) (j := 5) rfl
                  have c938 := sf_mf tw933 (p := 71) (j := 5) rfl
                  have c939 := sf_mf tw933 (p := 13) (j := 1) rfl
                  have c940 := sf_mf tw933 (p := 71) (j := 10) rfl
                  have c941 := sf_mf tw933 (p := 21) (j := 1) rfl
                  have c942 := sf_mf tw933 (p := 71) (j := 18) rfl
                  have c943 := sf_mf tw933 (p := 35) (j := 0) rfl
                  have c944 := sf_mf tw933 (p := 71) (j := 35) rfl
                  have c945 := sf_ma tw933 (p := 3) rfl
                  have c946 := sf_ma tw933 (p := 72) rfl
                  have c947 := sf_mg tw933 (p := 10) rfl
                  have c948 := sf_ma tw933 (p := 93) rfl
                  have c949 := sf_ma tw933 (p := 2) rfl
                  have c950 := sf_ma tw933 (p := 6) rfl
                  have c951 := sf_ma tw933 (p := 75) rfl
                  have c952 := sf_ma tw933 (p := 7) rfl
                  have c953 := sf_ma tw933 (p := 76) rfl
                  have c954 := sf_ma tw933 (p := 8) rfl
                  have c955 := sf_ma tw933 (p := 77) rfl
                  have c956 := sf_ma tw933 (p := 9) rfl
                  have c957 := sf_ma tw933 (p := 78) rfl
                  have c958 := sf_ma tw933 (p := 14) rfl
                  have c959 := sf_ma tw933 (p := 79) rfl
                  have c960 := sf_ma tw933 (p := 15) rfl
                  have c961 := sf_ma tw933 (p := 80) rfl
                  have c962 := sf_ma tw933 (p := 16) rfl
                  have c963 := sf_ma tw933 (p := 81) rfl
                  have c964 := sf_ma tw933 (p := 17) rfl
                  have c965 := sf_ma tw933 (p := 82) rfl
                  have c966 := sf_ma tw933 (p := 18) rfl
                  have c967 := sf_ma tw933 (p := 83) rfl
                  have c968 := sf_ma tw933 (p := 19) rfl
                  have c969 := sf_ma tw933 (p := 84) rfl
                  have c970 := sf_ma tw933 (p := 20) rfl
                  have c971 := sf_ma tw933 (p := 85) rfl
                  have c972 := sf_ma tw933 (p := 24) rfl
                  have c973 := sf_ma tw933 (p := 86) rfl
                  have c974 := sf_ma tw933 (p := 25) rfl
                  have c975 := sf_ma tw933 (p := 87) rfl
                  have c976 := sf_ma tw933 (p := 23) rfl
                  have c977 := sf_ma tw933 (p := 88) rfl
                  have c978 := sf_ma tw933 (p := 26) rfl
                  have c979 := sf_ma tw933 (p := 89) rfl
                  have c980 := sf_ma tw933 (p := 27) rfl
                  have c981 := sf_ma tw933 (p := 90) rfl
                  have c982 := sf_ma tw933 (p := 36) rfl
                  have c983 := sf_ma tw933 (p := 102) rfl
                  have c984 := sf_ma tw933 (p := 37) rfl
                  have c985 := sf_ma tw933 (p := 103) rfl
                  have c986 := sf_mf tw933 (p := 60) (j := 0) rfl
                  have c987 := sf_ma tw933 (p := 61) rfl
                  have c988 := sf_ma tw933 (p := 62) rfl
                  have c989 := sf_ma tw933 (p := 63) rfl
                  have c990 := sf_ma tw933 (p := 65) rfl
                  have c991 := sf_ma tw933 (p := 66) rfl
                  have c992 := sf_mf tw933 (p := 71) (j := 56) rfl
                  have c993 := sf_ma tw933 (p := 121) rfl
                  have c994 := sf_ma tw933 (p := 122) rfl
                  have c995 := sf_ma tw933 (p := 123) rfl
                  have c996 := sf_ma tw933 (p := 125) rfl
                  have c997 := sf_ma tw933 (p := 126) rfl
                  have c998 := sf_ma tw933 (p := 38) rfl
                  have c999 := sf_ma tw933 (p := 40) rfl
                  have c1000 := sf_ma tw933 (p := 41) rfl
                  have c1001 := sf_ma tw933 (p := 42) rfl
                  have c1002 := sf_ma tw933 (p := 43) rfl
                  have c1003 := sf_ma tw933 (p := 44) rfl
                  have c1004 := sf_ma tw933 (p := 47) rfl
                  have c1005 := sf_ma tw933 (p := 104) rfl
                  have c1006 := sf_ma tw933 (p := 106) rfl
                  have c1007 := sf_ma tw933 (p := 113) rfl
                  have c1008 := sf_ma tw933 (p := 107) rfl
                  have c1009 := sf_ma tw933 (p := 108) rfl
                  have c1010 := sf_ma tw933 (p := 110) rfl
                  have c1011 := sf_ma tw933 (p := 109) rfl
                  have c1012 := sf_mf tw933 (p := 71) (j := 41) rfl
                  have c1013 := sf_ma tw933 (p := 68) rfl
                  have c1014 := sf_ma tw933 (p := 69) rfl
                  have c1015 := sf_ma tw933 (p := 70) rfl
                  have c1016 := sf_ma tw933 (p := 127) rfl
                  have c1017 := sf_ma tw933 (p := 128) rfl
                  have c1018 := sf_ma tw933 (p := 129) rfl
                  have F1 := q934_0
                  refine sf_istore (L' := [(0, .inl (.ref 100000)), (1, .inl (.ref 0)), (2, .inl (.ref 71)), (3, .inl (.ref 130)), (4, .inl (.int x4))]) rfl ?_
                  refine sf_aload rfl ?_
                  refine sf_aload rfl ?_
                  refine sf_iload rfl ?_
                  refine sf_iconst sf_c1 (fun z1019 ez1019 => ?_)
                  refine sf_iadd (by omega) (fun v1020 ev1020 => ?_)
                  refine sf_sldk (x := x4) (k := 1) (by omega) (by omega) (by omega) ?_
                  clear ev1020 ez1019
                  refine sf_aload rfl ?_
                  refine sf_iload rfl ?_
                  refine sf_iconst sf_c2 (fun z1021 ez1021 => ?_)
                  refine sf_iadd (by omega) (fun v1022 ev1022 => ?_)
                  refine sf_sldk (x := x4) (k := 2) (by omega) (by omega) (by omega) ?_
                  clear ev1022 ez1021
                  refine sf_aload rfl ?_
                  refine sf_iload rfl ?_
                  refine sf_iconst sf_c3 (fun z1023 ez1023 => ?_)
                  refine sf_iadd (by omega) (fun v1024 ev1024 => ?_)
                  refine sf_sldk (x := x4) (k := 3) (by omega) (by omega) (by omega) ?_
                  clear ev1024 ez1023
                  refine sf_callv4 rfl (by omega) (by omega) ?_
                  refine sf_rv Iw933 rfl ?_
                  refine sc_M_rateFor Iw933  (fun v1025 w1026 Iw1026 tw1026 lv1025 uv1025 q1027_0 => ?_)
                  rw [c946] at q1027_0
                  rw [c959] at q1027_0
                  rw [c961] at q1027_0
                  rw [c969] at q1027_0
                  rw [c971] at q1027_0
                  rw [c936] at q1027_0
                  rw [c940] at q1027_0
                  have c1028 := sf_mf tw1026 (p := 1) (j := 0) rfl
                  have c1029 := sf_mf tw1026 (p := 71) (j := 1) rfl
                  have c1030 := sf_mf tw1026 (p := 1) (j := 5) rfl
                  have c1031 := sf_mf tw1026 (p := 71) (j := 5) rfl
                  have c1032 := sf_mf tw1026 (p := 13) (j := 1) rfl
                  have c1033 := sf_mf tw1026 (p := 71) (j := 10) rfl
                  have c1034 := sf_mf tw1026 (p := 21) (j := 1) rfl
                  have c1035 := sf_mf tw1026 (p := 71) (j := 18) rfl
                  have c1036 := sf_mf tw1026 (p := 35) (j := 0) rfl
                  have c1037 := sf_mf tw1026 (p := 71) (j := 35) rfl
                  have c1038 := sf_ma tw1026 (p := 3) rfl
                  have c1039 := sf_ma tw1026 (p := 72) rfl
                  have c1040 := sf_mg tw1026 (p := 10) rfl
                  have c1041 := sf_ma tw1026 (p := 93) rfl
                  have c1042 := sf_mL tw1026 (p := 130) rfl
                  have c1043 := sf_ma tw1026 (p := 2) rfl
                  have c1044 := sf_ma tw1026 (p := 6) rfl
                  have c1045 := sf_ma tw1026 (p := 75) rfl
                  have c1046 := sf_ma tw1026 (p := 7) rfl
                  have c1047 := sf_ma tw1026 (p := 76) rfl
                  have c1048 := sf_ma tw1026 (p := 8) rfl
                  have c1049 := sf_ma tw1026 (p := 77) rfl
                  have c1050 := sf_ma tw1026 (p := 9) rfl
                  have c1051 := sf_ma tw1026 (p := 78) rfl
                  have c1052 := sf_ma tw1026 (p := 14) rfl
                  have c1053 := sf_ma tw1026 (p := 79) rfl
                  have c1054 := sf_ma tw1026 (p := 15) rfl
                  have c1055 := sf_ma tw1026 (p := 80) rfl
                  have c1056 := sf_ma tw1026 (p := 16) rfl
                  have c1057 := sf_ma tw1026 (p := 81) rfl
                  have c1058 := sf_ma tw1026 (p := 17) rfl
                  have c1059 := sf_ma tw1026 (p := 82) rfl
                  have c1060 := sf_ma tw1026 (p := 18) rfl
                  have c1061 := sf_ma tw1026 (p := 83) rfl
                  have c1062 := sf_ma tw1026 (p := 19) rfl
                  have c1063 := sf_ma tw1026 (p := 84) rfl
                  have c1064 := sf_ma tw1026 (p := 20) rfl
                  have c1065 := sf_ma tw1026 (p := 85) rfl
                  have c1066 := sf_ma tw1026 (p := 24) rfl
                  have c1067 := sf_ma tw1026 (p := 86) rfl
                  have c1068 := sf_ma tw1026 (p := 25) rfl
                  have c1069 := sf_ma tw1026 (p := 87) rfl
                  have c1070 := sf_ma tw1026 (p := 23) rfl
                  have c1071 := sf_ma tw1026 (p := 88) rfl
                  have c1072 := sf_ma tw1026 (p := 26) rfl
                  have c1073 := sf_ma tw1026 (p := 89) rfl
                  have c1074 := sf_ma tw1026 (p := 27) rfl
                  have c1075 := sf_ma tw1026 (p := 90) rfl
                  have c1076 := sf_ma tw1026 (p := 36) rfl
                  have c1077 := sf_ma tw1026 (p := 102) rfl
                  have c1078 := sf_ma tw1026 (p := 37) rfl
                  have c1079 := sf_ma tw1026 (p := 103) rfl
                  have c1080 := sf_mf tw1026 (p := 60) (j := 0) rfl
                  have c1081 := sf_ma tw1026 (p := 61) rfl
                  have c1082 := sf_ma tw1026 (p := 62) rfl
                  have c1083 := sf_ma tw1026 (p := 63) rfl
                  have c1084 := sf_ma tw1026 (p := 65) rfl
                  have c1085 := sf_ma tw1026 (p := 66) rfl
                  have c1086 := sf_mf tw1026 (p := 71) (j := 56) rfl
                  have c1087 := sf_ma tw1026 (p := 121) rfl
                  have c1088 := sf_ma tw1026 (p := 122) rfl
                  have c1089 := sf_ma tw1026 (p := 123) rfl
                  have c1090 := sf_ma tw1026 (p := 125) rfl
                  have c1091 := sf_ma tw1026 (p := 126) rfl
                  have c1092 := sf_ma tw1026 (p := 38) rfl
                  have c1093 := sf_ma tw1026 (p := 40) rfl
                  have c1094 := sf_ma tw1026 (p := 41) rfl
                  have c1095 := sf_ma tw1026 (p := 42) rfl
                  have c1096 := sf_ma tw1026 (p := 43) rfl
                  have c1097 := sf_ma tw1026 (p := 44) rfl
                  have c1098 := sf_ma tw1026 (p := 47) rfl
                  have c1099 := sf_ma tw1026 (p := 104) rfl
                  have c1100 := sf_ma tw1026 (p := 106) rfl
                  have c1101 := sf_ma tw1026 (p := 113) rfl
                  have c1102 := sf_ma tw1026 (p := 107) rfl
                  have c1103 := sf_ma tw1026 (p := 108) rfl
                  have c1104 := sf_ma tw1026 (p := 110) rfl
                  have c1105 := sf_ma tw1026 (p := 109) rfl
                  have c1106 := sf_mf tw1026 (p := 71) (j := 41) rfl
                  have c1107 := sf_ma tw1026 (p := 68) rfl
                  have c1108 := sf_ma tw1026 (p := 69) rfl
                  have c1109 := sf_ma tw1026 (p := 70) rfl
                  have c1110 := sf_ma tw1026 (p := 127) rfl
                  have c1111 := sf_ma tw1026 (p := 128) rfl
                  have c1112 := sf_ma tw1026 (p := 129) rfl
                  have G1 := q1027_0
                  have hE : 0 ≤ (xs (x4.toInt.toNat + 1)).toInt → (xs (x4.toInt.toNat + 1)).toInt < (sf_f w 71 1).toInt → sr_up (sf_a w 2) (sr_G (sf_a w 14) (sf_a w 15) (sf_a w 19) (sf_a w 20) (xs (x4.toInt.toNat + 2)).toInt (xs (x4.toInt.toNat + 3)).toInt (sf_f w 13 1).toInt.toNat) 6 (xs (x4.toInt.toNat + 1)).toInt = sr_up (sf_a w 72) (sr_G (sf_a w 79) (sf_a w 80) (sf_a w 84) (sf_a w 85) (xs (x4.toInt.toNat + 2)).toInt (xs (x4.toInt.toNat + 3)).toInt (sf_f w 71 10).toInt.toNat) ((xs (x4.toInt.toNat + 1)).toInt + 1).toNat (xs (x4.toInt.toNat + 1)).toInt := fun h1 h2 => sr_upE f_1 f_3 (fun i _ => sr_gE f_8 f_9 f_13 f_14 _ _ (by omega) i) 6 6 _ _ h2 (fun h3 => by have h4 := (f_1 (xs (x4.toInt.toNat + 1)).toInt.toNat (by omega)).2.2.2.1; omega) (Nat.le_refl _) (by omega)
                  refine sf_istore (L' := [(5, .inl (.int v932)), (0, .inl (.ref 100000)), (1, .inl (.ref 0)), (2, .inl (.ref 71)), (3, .inl (.ref 130)), (4, .inl (.int x4))]) rfl ?_
                  show kt_W_law_1404 N xs K _ _ _ _ _
                  refine sf_iinc (L' := [(6, .inl (.int v1025)), (5, .inl (.int v932)), (0, .inl (.ref 100000)), (1, .inl (.ref 0)), (2, .inl (.ref 71)), (3, .inl (.ref 130))]) (x := x4) sf_c8 rfl rfl (by omega) (fun v1113 ev1113 => ?_)
                  refine sf_can (L' := [(0, .inl (.ref 100000)), (1, .inl (.ref 0)), (2, .inl (.ref 71)), (3, .inl (.ref 130)), (4, .inl (.int v1113))]) rfl ?_
                  exact ih _ _ _ _ Iw1026 (by omega) (by omega) (by omega) (by omega) (by rw [c1028, c935]; rw [c1029, c936]; rw [c1030, c937]; rw [c1031, c938]; rw [c1032, c939]; rw [c1033, c940]; rw [c1034, c941]; rw [c1035, c942]; rw [c1036, c943]; rw [c1037, c944]; omega) (by rw [c1038, c945]; rw [c1039, c946]; rw [c1029, c936]; first | exact f_1 | exact hJ) (by rw [c1040, c947]; rw [c1041, c948]; first | exact f_2 | exact hK2) (by rw [c1043, c949]; rw [c1039, c946]; rw [c1029, c936]; first | exact f_3 | exact hQ2) (by rw [c1044, c950]; rw [c1045, c951]; rw [c1031, c938]; first | exact f_4 | exact hQ6) (by rw [c1046, c952]; rw [c1047, c953]; rw [c1031, c938]; first | exact f_5 | exact hQ7) (by rw [c1048, c954]; rw [c1049, c955]; rw [c1031, c938]; first | exact f_6 | exact hQ8) (by rw [c1050, c956]; rw [c1051, c957]; rw [c1031, c938]; first | exact f_7 | exact hQ9) (by rw [c1052, c958]; rw [c1053, c959]; rw [c1033, c940]; first | exact f_8 | exact hQ14) (by rw [c1054, c960]; rw [c1055, c961]; rw [c1033, c940]; first | exact f_9 | exact hQ15) (by rw [c1056, c962]; rw [c1057, c963]; rw [c1033, c940]; first | exact f_10 | exact hQ16) (by rw [c1058, c964]; rw [c1059, c965]; rw [c1033, c940]; first | exact f_11 | exact hQ17) (by rw [c1060, c966]; rw [c1061, c967]; rw [c1033, c940]; first | exact f_12 | exact hQ18) (by rw [c1062, c968]; rw [c1063, c969]; rw [c1033, c940]; first | exact f_13 | exact hQ19) (by rw [c1064, c970]; rw [c1065, c971]; rw [c1033, c940]; first | exact f_14 | exact hQ20) (by rw [c1066, c972]; rw [c1067, c973]; rw [c1035, c942]; first | exact f_15 | exact hQ24) (by rw [c1068, c974]; rw [c1069, c975]; rw [c1035, c942]; first | exact f_16 | exact hQ25) (by rw [c1070, c976]; rw [c1071, c977]; rw [c1035, c942]; first | exact f_17 | exact hQ23) (by rw [c1072, c978]; rw [c1073, c979]; rw [c1035, c942]; first | exact f_18 | exact hQ26) (by rw [c1074, c980]; rw [c1075, c981]; rw [c1035, c942]; first | exact f_19 | exact hQ27) (by rw [c1076, c982]; rw [c1077, c983]; rw [c1037, c944]; first | exact f_20 | exact hQ36) (by rw [c1078, c984]; rw [c1079, c985]; rw [c1037, c944]; first | exact f_21 | exact hQ37) (by rw [c1080, c986]; rw [c1086, c992]; rw [c1081, c987]; rw [c1082, c988]; rw [c1083, c989]; rw [c1084, c990]; rw [c1085, c991]; rw [c1087, c993]; rw [c1088, c994]; rw [c1089, c995]; rw [c1090, c996]; rw [c1091, c997]; exact f_22) (by rw [c1092, c998]; rw [c1099, c1005]; rw [c1093, c999]; rw [c1100, c1006]; rw [c1095, c1001]; rw [c1102, c1008]; rw [c1096, c1002]; rw [c1103, c1009]; rw [c1098, c1004]; rw [c1105, c1011]; rw [c1097, c1003]; rw [c1104, c1010]; exact f_23) (by rw [c1093, c999]; rw [c1092, c998]; rw [c1094, c1000]; rw [c1101, c1007]; exact f_24) (by rw [c1077, c983]; rw [c1079, c985]; rw [c1100, c1006]; rw [c1037, c944]; rw [c1106, c1012]; exact f_25) (by rw [c1100, c1006]; rw [c1037, c944]; exact f_26) (by rw [c1107, c1013]; rw [c1110, c1016]; rw [c1108, c1014]; rw [c1111, c1017]; rw [c1109, c1015]; rw [c1112, c1018]; exact f_27) (by omega)
                · clear h925
                  refine sf_sw1 sf_c6 (fun h1114 => ?_) (fun h1114 => ?_)
                  · refine sf_aload rfl ?_
                    refine sf_aload rfl ?_
                    refine sf_iload rfl ?_
                    refine sf_iconst sf_c1 (fun z1115 ez1115 => ?_)
                    refine sf_iadd (by omega) (fun v1116 ev1116 => ?_)
                    refine sf_sldk (x := x4) (k := 1) (by omega) (by omega) (by omega) ?_
                    clear ev1116 ez1115
                    refine sf_aload rfl ?_
                    refine sf_iload rfl ?_
                    refine sf_iconst sf_c2 (fun z1117 ez1117 => ?_)
                    refine sf_iadd (by omega) (fun v1118 ev1118 => ?_)
                    refine sf_sldk (x := x4) (k := 2) (by omega) (by omega) (by omega) ?_
                    clear ev1118 ez1117
                    refine sf_aload rfl ?_
                    refine sf_iload rfl ?_
                    refine sf_iconst sf_c3 (fun z1119 ez1119 => ?_)
                    refine sf_iadd (by omega) (fun v1120 ev1120 => ?_)
                    refine sf_sldk (x := x4) (k := 3) (by omega) (by omega) (by omega) ?_
                    clear ev1120 ez1119
                    refine sf_aload rfl ?_
                    refine sf_iload rfl ?_
                    refine sf_iconst sf_c4 (fun z1121 ez1121 => ?_)
                    refine sf_iadd (by omega) (fun v1122 ev1122 => ?_)
                    refine sf_sldk (x := x4) (k := 4) (by omega) (by omega) (by omega) ?_
                    clear ev1122 ez1121
                    refine sf_aload rfl ?_
                    refine sf_iload rfl ?_
                    refine sf_iconst sf_c5 (fun z1123 ez1123 => ?_)
                    refine sf_iadd (by omega) (fun v1124 ev1124 => ?_)
                    refine sf_sldk (x := x4) (k := 5) (by omega) (by omega) (by omega) ?_
                    clear ev1124 ez1123
                    refine sf_aload rfl ?_
                    refine sf_iload rfl ?_
                    refine sf_iconst sf_c6 (fun z1125 ez1125 => ?_)
                    refine sf_iadd (by omega) (fun v1126 ev1126 => ?_)
                    refine sf_sldk (x := x4) (k := 6) (by omega) (by omega) (by omega) ?_
                    clear ev1126 ez1125
                    refine sf_aload rfl ?_
                    refine sf_callv8 rfl (by omega) (by omega) ?_
                    refine sc_W_quota_0_130 I_w  (fun v1127 w1128 Iw1128 tw1128 lv1127 uv1127 q1129_0 q1129_1 q1129_2 q1129_3 q1129_4 q1129_5 => ?_)
                    have c1130 := sf_mf tw1128 (p := 1) (j := 0) rfl
                    have c1131 := sf_mf tw1128 (p := 71) (j := 1) rfl
                    have c1132 := sf_mf tw1128 (p := 1) (j := 5) rfl
                    have c1133 := sf_mf tw1128 (p := 71) (j := 5) rfl
                    have c1134 := sf_mf tw1128 (p := 13) (j := 1) rfl
                    have c1135 := sf_mf tw1128 (p := 71) (j := 10) rfl
                    have c1136 := sf_mf tw1128 (p := 71) (j := 18) rfl
                    have c1137 := sf_mf tw1128 (p := 35) (j := 0) rfl
                    have c1138 := sf_mf tw1128 (p := 71) (j := 35) rfl
                    have c1139 := sf_ma tw1128 (p := 3) rfl
                    have c1140 := sf_ma tw1128 (p := 72) rfl
                    have c1141 := sf_mg tw1128 (p := 10) rfl
                    have c1142 := sf_ma tw1128 (p := 93) rfl
                    have c1143 := sf_ma tw1128 (p := 2) rfl
                    have c1144 := sf_ma tw1128 (p := 6) rfl
                    have c1145 := sf_ma tw1128 (p := 75) rfl
                    have c1146 := sf_ma tw1128 (p := 7) rfl
                    have c1147 := sf_ma tw1128 (p := 76) rfl
                    have c1148 := sf_ma tw1128 (p := 8) rfl
                    have c1149 := sf_ma tw1128 (p := 77) rfl
                    have c1150 := sf_ma tw1128 (p := 9) rfl
                    have c1151 := sf_ma tw1128 (p := 78) rfl
                    have c1152 := sf_ma tw1128 (p := 14) rfl
                    have c1153 := sf_ma tw1128 (p := 79) rfl
                    have c1154 := sf_ma tw1128 (p := 15) rfl
                    have c1155 := sf_ma tw1128 (p := 80) rfl
                    have c1156 := sf_ma tw1128 (p := 16) rfl
                    have c1157 := sf_ma tw1128 (p := 81) rfl
                    have c1158 := sf_ma tw1128 (p := 17) rfl
                    have c1159 := sf_ma tw1128 (p := 82) rfl
                    have c1160 := sf_ma tw1128 (p := 18) rfl
                    have c1161 := sf_ma tw1128 (p := 83) rfl
                    have c1162 := sf_ma tw1128 (p := 19) rfl
                    have c1163 := sf_ma tw1128 (p := 84) rfl
                    have c1164 := sf_ma tw1128 (p := 20) rfl
                    have c1165 := sf_ma tw1128 (p := 85) rfl
                    have c1166 := sf_ma tw1128 (p := 86) rfl
                    have c1167 := sf_ma tw1128 (p := 87) rfl
                    have c1168 := sf_ma tw1128 (p := 88) rfl
                    have c1169 := sf_ma tw1128 (p := 89) rfl
                    have c1170 := sf_ma tw1128 (p := 90) rfl
                    have c1171 := sf_ma tw1128 (p := 36) rfl
                    have c1172 := sf_ma tw1128 (p := 102) rfl
                    have c1173 := sf_ma tw1128 (p := 37) rfl
                    have c1174 := sf_ma tw1128 (p := 103) rfl
                    have c1175 := sf_mf tw1128 (p := 60) (j := 0) rfl
                    have c1176 := sf_ma tw1128 (p := 61) rfl
                    have c1177 := sf_ma tw1128 (p := 62) rfl
                    have c1178 := sf_ma tw1128 (p := 63) rfl
                    have c1179 := sf_ma tw1128 (p := 65) rfl
                    have c1180 := sf_ma tw1128 (p := 66) rfl
                    have c1181 := sf_mf tw1128 (p := 71) (j := 56) rfl
                    have c1182 := sf_ma tw1128 (p := 121) rfl
                    have c1183 := sf_ma tw1128 (p := 122) rfl
                    have c1184 := sf_ma tw1128 (p := 123) rfl
                    have c1185 := sf_ma tw1128 (p := 125) rfl
                    have c1186 := sf_ma tw1128 (p := 126) rfl
                    have c1187 := sf_ma tw1128 (p := 38) rfl
                    have c1188 := sf_ma tw1128 (p := 40) rfl
                    have c1189 := sf_ma tw1128 (p := 41) rfl
                    have c1190 := sf_ma tw1128 (p := 42) rfl
                    have c1191 := sf_ma tw1128 (p := 43) rfl
                    have c1192 := sf_ma tw1128 (p := 44) rfl
                    have c1193 := sf_ma tw1128 (p := 47) rfl
                    have c1194 := sf_ma tw1128 (p := 104) rfl
                    have c1195 := sf_ma tw1128 (p := 106) rfl
                    have c1196 := sf_ma tw1128 (p := 113) rfl
                    have c1197 := sf_ma tw1128 (p := 107) rfl
                    have c1198 := sf_ma tw1128 (p := 108) rfl
                    have c1199 := sf_ma tw1128 (p := 110) rfl
                    have c1200 := sf_ma tw1128 (p := 109) rfl
                    have c1201 := sf_mf tw1128 (p := 71) (j := 41) rfl
                    have c1202 := sf_ma tw1128 (p := 68) rfl
                    have c1203 := sf_ma tw1128 (p := 69) rfl
                    have c1204 := sf_ma tw1128 (p := 70) rfl
                    have c1205 := sf_ma tw1128 (p := 127) rfl
                    have c1206 := sf_ma tw1128 (p := 128) rfl
                    have c1207 := sf_ma tw1128 (p := 129) rfl
                    have U24 := q1129_1
                    have U25 := q1129_2
                    have U23 := q1129_3
                    have U26 := q1129_4
                    have U27 := q1129_5
                    clear q1129_1 q1129_2 q1129_3 q1129_4 q1129_5
                    have F1 := q1129_0
                    refine sf_istore (L' := [(0, .inl (.ref 100000)), (1, .inl (.ref 0)), (2, .inl (.ref 71)), (3, .inl (.ref 130)), (4, .inl (.int x4))]) rfl ?_
                    refine sf_aload rfl ?_
                    refine sf_aload rfl ?_
                    refine sf_iload rfl ?_
                    refine sf_iconst sf_c1 (fun z1208 ez1208 => ?_)
                    refine sf_iadd (by omega) (fun v1209 ev1209 => ?_)
                    refine sf_sldk (x := x4) (k := 1) (by omega) (by omega) (by omega) ?_
                    clear ev1209 ez1208
                    refine sf_aload rfl ?_
                    refine sf_iload rfl ?_
                    refine sf_iconst sf_c2 (fun z1210 ez1210 => ?_)
                    refine sf_iadd (by omega) (fun v1211 ev1211 => ?_)
                    refine sf_sldk (x := x4) (k := 2) (by omega) (by omega) (by omega) ?_
                    clear ev1211 ez1210
                    refine sf_aload rfl ?_
                    refine sf_iload rfl ?_
                    refine sf_iconst sf_c3 (fun z1212 ez1212 => ?_)
                    refine sf_iadd (by omega) (fun v1213 ev1213 => ?_)
                    refine sf_sldk (x := x4) (k := 3) (by omega) (by omega) (by omega) ?_
                    clear ev1213 ez1212
                    refine sf_aload rfl ?_
                    refine sf_iload rfl ?_
                    refine sf_iconst sf_c4 (fun z1214 ez1214 => ?_)
                    refine sf_iadd (by omega) (fun v1215 ev1215 => ?_)
                    refine sf_sldk (x := x4) (k := 4) (by omega) (by omega) (by omega) ?_
                    clear ev1215 ez1214
                    refine sf_aload rfl ?_
                    refine sf_iload rfl ?_
                    refine sf_iconst sf_c5 (fun z1216 ez1216 => ?_)
                    refine sf_iadd (by omega) (fun v1217 ev1217 => ?_)
                    refine sf_sldk (x := x4) (k := 5) (by omega) (by omega) (by omega) ?_
                    clear ev1217 ez1216
                    refine sf_aload rfl ?_
                    refine sf_iload rfl ?_
                    refine sf_iconst sf_c6 (fun z1218 ez1218 => ?_)
                    refine sf_iadd (by omega) (fun v1219 ev1219 => ?_)
                    refine sf_sldk (x := x4) (k := 6) (by omega) (by omega) (by omega) ?_
                    clear ev1219 ez1218
                    refine sf_callv7 rfl (by omega) (by omega) ?_
                    refine sf_rv Iw1128 rfl ?_
                    refine sc_M_quota Iw1128  (fun v1220 w1221 Iw1221 tw1221 lv1220 uv1220 q1222_0 q1222_1 q1222_2 q1222_3 q1222_4 q1222_5 => ?_)
                    rw [c1131] at q1222_0
                    rw [c1136] at q1222_0
                    rw [c1166] at q1222_1
                    rw [c1136] at q1222_1
                    rw [c1167] at q1222_2
                    rw [c1136] at q1222_2
                    rw [c1168] at q1222_3
                    rw [c1136] at q1222_3
                    rw [c1169] at q1222_4
                    rw [c1136] at q1222_4
                    rw [c1170] at q1222_5
                    rw [c1136] at q1222_5
                    have c1223 := sf_mf tw1221 (p := 1) (j := 0) rfl
                    have c1224 := sf_mf tw1221 (p := 71) (j := 1) rfl
                    have c1225 := sf_mf tw1221 (p := 1) (j := 5) rfl
                    have c1226 := sf_mf tw1221 (p := 71) (j := 5) rfl
                    have c1227 := sf_mf tw1221 (p := 13) (j := 1) rfl
                    have c1228 := sf_mf tw1221 (p := 71) (j := 10) rfl
                    have c1229 := sf_mf tw1221 (p := 21) (j := 1) rfl
                    have c1230 := sf_mf tw1221 (p := 35) (j := 0) rfl
                    have c1231 := sf_mf tw1221 (p := 71) (j := 35) rfl
                    have c1232 := sf_ma tw1221 (p := 3) rfl
                    have c1233 := sf_ma tw1221 (p := 72) rfl
                    have c1234 := sf_mg tw1221 (p := 10) rfl
                    have c1235 := sf_ma tw1221 (p := 93) rfl
                    have c1236 := sf_mL tw1221 (p := 130) rfl
                    have c1237 := sf_ma tw1221 (p := 2) rfl
                    have c1238 := sf_ma tw1221 (p := 6) rfl
                    have c1239 := sf_ma tw1221 (p := 75) rfl
                    have c1240 := sf_ma tw1221 (p := 7) rfl
                    have c1241 := sf_ma tw1221 (p := 76) rfl
                    have c1242 := sf_ma tw1221 (p := 8) rfl
                    have c1243 := sf_ma tw1221 (p := 77) rfl
                    have c1244 := sf_ma tw1221 (p := 9) rfl
                    have c1245 := sf_ma tw1221 (p := 78) rfl
                    have c1246 := sf_ma tw1221 (p := 14) rfl
                    have c1247 := sf_ma tw1221 (p := 79) rfl
                    have c1248 := sf_ma tw1221 (p := 15) rfl
                    have c1249 := sf_ma tw1221 (p := 80) rfl
                    have c1250 := sf_ma tw1221 (p := 16) rfl
                    have c1251 := sf_ma tw1221 (p := 81) rfl
                    have c1252 := sf_ma tw1221 (p := 17) rfl
                    have c1253 := sf_ma tw1221 (p := 82) rfl
                    have c1254 := sf_ma tw1221 (p := 18) rfl
                    have c1255 := sf_ma tw1221 (p := 83) rfl
                    have c1256 := sf_ma tw1221 (p := 19) rfl
                    have c1257 := sf_ma tw1221 (p := 84) rfl
                    have c1258 := sf_ma tw1221 (p := 20) rfl
                    have c1259 := sf_ma tw1221 (p := 85) rfl
                    have c1260 := sf_ma tw1221 (p := 24) rfl
                    have c1261 := sf_ma tw1221 (p := 25) rfl
                    have c1262 := sf_ma tw1221 (p := 23) rfl
                    have c1263 := sf_ma tw1221 (p := 26) rfl
                    have c1264 := sf_ma tw1221 (p := 27) rfl
                    have c1265 := sf_ma tw1221 (p := 36) rfl
                    have c1266 := sf_ma tw1221 (p := 102) rfl
                    have c1267 := sf_ma tw1221 (p := 37) rfl
                    have c1268 := sf_ma tw1221 (p := 103) rfl
                    have c1269 := sf_mf tw1221 (p := 60) (j := 0) rfl
                    have c1270 := sf_ma tw1221 (p := 61) rfl
                    have c1271 := sf_ma tw1221 (p := 62) rfl
                    have c1272 := sf_ma tw1221 (p := 63) rfl
                    have c1273 := sf_ma tw1221 (p := 65) rfl
                    have c1274 := sf_ma tw1221 (p := 66) rfl
                    have c1275 := sf_mf tw1221 (p := 71) (j := 56) rfl
                    have c1276 := sf_ma tw1221 (p := 121) rfl
                    have c1277 := sf_ma tw1221 (p := 122) rfl
                    have c1278 := sf_ma tw1221 (p := 123) rfl
                    have c1279 := sf_ma tw1221 (p := 125) rfl
                    have c1280 := sf_ma tw1221 (p := 126) rfl
                    have c1281 := sf_ma tw1221 (p := 38) rfl
                    have c1282 := sf_ma tw1221 (p := 40) rfl
                    have c1283 := sf_ma tw1221 (p := 41) rfl
                    have c1284 := sf_ma tw1221 (p := 42) rfl
                    have c1285 := sf_ma tw1221 (p := 43) rfl
                    have c1286 := sf_ma tw1221 (p := 44) rfl
                    have c1287 := sf_ma tw1221 (p := 47) rfl
                    have c1288 := sf_ma tw1221 (p := 104) rfl
                    have c1289 := sf_ma tw1221 (p := 106) rfl
                    have c1290 := sf_ma tw1221 (p := 113) rfl
                    have c1291 := sf_ma tw1221 (p := 107) rfl
                    have c1292 := sf_ma tw1221 (p := 108) rfl
                    have c1293 := sf_ma tw1221 (p := 110) rfl
                    have c1294 := sf_ma tw1221 (p := 109) rfl
                    have c1295 := sf_mf tw1221 (p := 71) (j := 41) rfl
                    have c1296 := sf_ma tw1221 (p := 68) rfl
                    have c1297 := sf_ma tw1221 (p := 69) rfl
                    have c1298 := sf_ma tw1221 (p := 70) rfl
                    have c1299 := sf_ma tw1221 (p := 127) rfl
                    have c1300 := sf_ma tw1221 (p := 128) rfl
                    have c1301 := sf_ma tw1221 (p := 129) rfl
                    have U86 := q1222_1
                    have U87 := q1222_2
                    have U88 := q1222_3
                    have U89 := q1222_4
                    have U90 := q1222_5
                    clear q1222_1 q1222_2 q1222_3 q1222_4 q1222_5
                    have G1 := q1222_0
                    have hrc : v1127.toInt = (sf_f w1221 71 0).toInt := by omega
                    have hcn : (v1127.toInt = 0 ∧ (sf_f w1221 71 18).toInt = (sf_f w 71 18).toInt + 1) ∨ (v1127.toInt ≠ 0 ∧ (sf_f w1221 71 18).toInt = (sf_f w 71 18).toInt) := by omega
                    have hQ24 := sf_QH f_15 U24 U86 (by omega) hrc hcn
                    have hQ25 := sf_QH f_16 U25 U87 (by omega) hrc hcn
                    have hQ23 := sf_QH f_17 U23 U88 (by omega) hrc hcn
                    have hQ26 := sf_QH f_18 U26 U89 (by omega) hrc hcn
                    have hQ27 := sf_QH f_19 U27 U90 (by omega) hrc hcn
                    refine sf_istore (L' := [(5, .inl (.int v1127)), (0, .inl (.ref 100000)), (1, .inl (.ref 0)), (2, .inl (.ref 71)), (3, .inl (.ref 130)), (4, .inl (.int x4))]) rfl ?_
                    show kt_W_law_1404 N xs K _ _ _ _ _
                    refine sf_iinc (L' := [(6, .inl (.int v1220)), (5, .inl (.int v1127)), (0, .inl (.ref 100000)), (1, .inl (.ref 0)), (2, .inl (.ref 71)), (3, .inl (.ref 130))]) (x := x4) sf_c8 rfl rfl (by omega) (fun v1302 ev1302 => ?_)
                    refine sf_can (L' := [(0, .inl (.ref 100000)), (1, .inl (.ref 0)), (2, .inl (.ref 71)), (3, .inl (.ref 130)), (4, .inl (.int v1302))]) rfl ?_
                    exact ih _ _ _ _ Iw1221 (by omega) (by omega) (by omega) (by omega) (by rw [c1223, c1130]; rw [c1224, c1131]; rw [c1225, c1132]; rw [c1226, c1133]; rw [c1227, c1134]; rw [c1228, c1135]; rw [c1229]; rw [c1230, c1137]; rw [c1231, c1138]; omega) (by rw [c1232, c1139]; rw [c1233, c1140]; rw [c1224, c1131]; first | exact f_1 | exact hJ) (by rw [c1234, c1141]; rw [c1235, c1142]; first | exact f_2 | exact hK2) (by rw [c1237, c1143]; rw [c1233, c1140]; rw [c1224, c1131]; first | exact f_3 | exact hQ2) (by rw [c1238, c1144]; rw [c1239, c1145]; rw [c1226, c1133]; first | exact f_4 | exact hQ6) (by rw [c1240, c1146]; rw [c1241, c1147]; rw [c1226, c1133]; first | exact f_5 | exact hQ7) (by rw [c1242, c1148]; rw [c1243, c1149]; rw [c1226, c1133]; first | exact f_6 | exact hQ8) (by rw [c1244, c1150]; rw [c1245, c1151]; rw [c1226, c1133]; first | exact f_7 | exact hQ9) (by rw [c1246, c1152]; rw [c1247, c1153]; rw [c1228, c1135]; first | exact f_8 | exact hQ14) (by rw [c1248, c1154]; rw [c1249, c1155]; rw [c1228, c1135]; first | exact f_9 | exact hQ15) (by rw [c1250, c1156]; rw [c1251, c1157]; rw [c1228, c1135]; first | exact f_10 | exact hQ16) (by rw [c1252, c1158]; rw [c1253, c1159]; rw [c1228, c1135]; first | exact f_11 | exact hQ17) (by rw [c1254, c1160]; rw [c1255, c1161]; rw [c1228, c1135]; first | exact f_12 | exact hQ18) (by rw [c1256, c1162]; rw [c1257, c1163]; rw [c1228, c1135]; first | exact f_13 | exact hQ19) (by rw [c1258, c1164]; rw [c1259, c1165]; rw [c1228, c1135]; first | exact f_14 | exact hQ20) (by rw [c1260]; first | exact f_15 | exact hQ24) (by rw [c1261]; first | exact f_16 | exact hQ25) (by rw [c1262]; first | exact f_17 | exact hQ23) (by rw [c1263]; first | exact f_18 | exact hQ26) (by rw [c1264]; first | exact f_19 | exact hQ27) (by rw [c1265, c1171]; rw [c1266, c1172]; rw [c1231, c1138]; first | exact f_20 | exact hQ36) (by rw [c1267, c1173]; rw [c1268, c1174]; rw [c1231, c1138]; first | exact f_21 | exact hQ37) (by rw [c1269, c1175]; rw [c1275, c1181]; rw [c1270, c1176]; rw [c1271, c1177]; rw [c1272, c1178]; rw [c1273, c1179]; rw [c1274, c1180]; rw [c1276, c1182]; rw [c1277, c1183]; rw [c1278, c1184]; rw [c1279, c1185]; rw [c1280, c1186]; exact f_22) (by rw [c1281, c1187]; rw [c1288, c1194]; rw [c1282, c1188]; rw [c1289, c1195]; rw [c1284, c1190]; rw [c1291, c1197]; rw [c1285, c1191]; rw [c1292, c1198]; rw [c1287, c1193]; rw [c1294, c1200]; rw [c1286, c1192]; rw [c1293, c1199]; exact f_23) (by rw [c1282, c1188]; rw [c1281, c1187]; rw [c1283, c1189]; rw [c1290, c1196]; exact f_24) (by rw [c1266, c1172]; rw [c1268, c1174]; rw [c1289, c1195]; rw [c1231, c1138]; rw [c1295, c1201]; exact f_25) (by rw [c1289, c1195]; rw [c1231, c1138]; exact f_26) (by rw [c1296, c1202]; rw [c1299, c1205]; rw [c1297, c1203]; rw [c1300, c1206]; rw [c1298, c1204]; rw [c1301, c1207]; exact f_27) (by omega)
                  · clear h1114
                    refine sf_sw1 sf_c7 (fun h1303 => ?_) (fun h1303 => ?_)
                    · refine sf_aload rfl ?_
                      refine sf_aload rfl ?_
                      refine sf_iload rfl ?_
                      refine sf_iconst sf_c1 (fun z1304 ez1304 => ?_)
                      refine sf_iadd (by omega) (fun v1305 ev1305 => ?_)
                      refine sf_sldk (x := x4) (k := 1) (by omega) (by omega) (by omega) ?_
                      clear ev1305 ez1304
                      refine sf_aload rfl ?_
                      refine sf_callv3 rfl (by omega) (by omega) ?_
                      refine sc_W_quotaLeft_0_130 I_w  (fun v1306 w1307 Iw1307 tw1307 lv1306 uv1306 => ?_)
                      have c1309 := sf_mf tw1307 (p := 1) (j := 0) rfl
                      have c1310 := sf_mf tw1307 (p := 71) (j := 1) rfl
                      have c1311 := sf_mf tw1307 (p := 1) (j := 5) rfl
                      have c1312 := sf_mf tw1307 (p := 71) (j := 5) rfl
                      have c1313 := sf_mf tw1307 (p := 13) (j := 1) rfl
                      have c1314 := sf_mf tw1307 (p := 71) (j := 10) rfl
                      have c1315 := sf_mf tw1307 (p := 21) (j := 1) rfl
                      have c1316 := sf_mf tw1307 (p := 71) (j := 18) rfl
                      have c1317 := sf_mf tw1307 (p := 35) (j := 0) rfl
                      have c1318 := sf_mf tw1307 (p := 71) (j := 35) rfl
                      have c1319 := sf_ma tw1307 (p := 3) rfl
                      have c1320 := sf_ma tw1307 (p := 72) rfl
                      have c1321 := sf_mg tw1307 (p := 10) rfl
                      have c1322 := sf_ma tw1307 (p := 93) rfl
                      have c1323 := sf_ma tw1307 (p := 2) rfl
                      have c1324 := sf_ma tw1307 (p := 6) rfl
                      have c1325 := sf_ma tw1307 (p := 75) rfl
                      have c1326 := sf_ma tw1307 (p := 7) rfl
                      have c1327 := sf_ma tw1307 (p := 76) rfl
                      have c1328 := sf_ma tw1307 (p := 8) rfl
                      have c1329 := sf_ma tw1307 (p := 77) rfl
                      have c1330 := sf_ma tw1307 (p := 9) rfl
                      have c1331 := sf_ma tw1307 (p := 78) rfl
                      have c1332 := sf_ma tw1307 (p := 14) rfl
                      have c1333 := sf_ma tw1307 (p := 79) rfl
                      have c1334 := sf_ma tw1307 (p := 15) rfl
                      have c1335 := sf_ma tw1307 (p := 80) rfl
                      have c1336 := sf_ma tw1307 (p := 16) rfl
                      have c1337 := sf_ma tw1307 (p := 81) rfl
                      have c1338 := sf_ma tw1307 (p := 17) rfl
                      have c1339 := sf_ma tw1307 (p := 82) rfl
                      have c1340 := sf_ma tw1307 (p := 18) rfl
                      have c1341 := sf_ma tw1307 (p := 83) rfl
                      have c1342 := sf_ma tw1307 (p := 19) rfl
                      have c1343 := sf_ma tw1307 (p := 84) rfl
                      have c1344 := sf_ma tw1307 (p := 20) rfl
                      have c1345 := sf_ma tw1307 (p := 85) rfl
                      have c1346 := sf_ma tw1307 (p := 24) rfl
                      have c1347 := sf_ma tw1307 (p := 86) rfl
                      have c1348 := sf_ma tw1307 (p := 25) rfl
                      have c1349 := sf_ma tw1307 (p := 87) rfl
                      have c1350 := sf_ma tw1307 (p := 23) rfl
                      have c1351 := sf_ma tw1307 (p := 88) rfl
                      have c1352 := sf_ma tw1307 (p := 26) rfl
                      have c1353 := sf_ma tw1307 (p := 89) rfl
                      have c1354 := sf_ma tw1307 (p := 27) rfl
                      have c1355 := sf_ma tw1307 (p := 90) rfl
                      have c1356 := sf_ma tw1307 (p := 36) rfl
                      have c1357 := sf_ma tw1307 (p := 102) rfl
                      have c1358 := sf_ma tw1307 (p := 37) rfl
                      have c1359 := sf_ma tw1307 (p := 103) rfl
                      have c1360 := sf_mf tw1307 (p := 60) (j := 0) rfl
                      have c1361 := sf_ma tw1307 (p := 61) rfl
                      have c1362 := sf_ma tw1307 (p := 62) rfl
                      have c1363 := sf_ma tw1307 (p := 63) rfl
                      have c1364 := sf_ma tw1307 (p := 65) rfl
                      have c1365 := sf_ma tw1307 (p := 66) rfl
                      have c1366 := sf_mf tw1307 (p := 71) (j := 56) rfl
                      have c1367 := sf_ma tw1307 (p := 121) rfl
                      have c1368 := sf_ma tw1307 (p := 122) rfl
                      have c1369 := sf_ma tw1307 (p := 123) rfl
                      have c1370 := sf_ma tw1307 (p := 125) rfl
                      have c1371 := sf_ma tw1307 (p := 126) rfl
                      have c1372 := sf_ma tw1307 (p := 38) rfl
                      have c1373 := sf_ma tw1307 (p := 40) rfl
                      have c1374 := sf_ma tw1307 (p := 41) rfl
                      have c1375 := sf_ma tw1307 (p := 42) rfl
                      have c1376 := sf_ma tw1307 (p := 43) rfl
                      have c1377 := sf_ma tw1307 (p := 44) rfl
                      have c1378 := sf_ma tw1307 (p := 47) rfl
                      have c1379 := sf_ma tw1307 (p := 104) rfl
                      have c1380 := sf_ma tw1307 (p := 106) rfl
                      have c1381 := sf_ma tw1307 (p := 113) rfl
                      have c1382 := sf_ma tw1307 (p := 107) rfl
                      have c1383 := sf_ma tw1307 (p := 108) rfl
                      have c1384 := sf_ma tw1307 (p := 110) rfl
                      have c1385 := sf_ma tw1307 (p := 109) rfl
                      have c1386 := sf_mf tw1307 (p := 71) (j := 41) rfl
                      have c1387 := sf_ma tw1307 (p := 68) rfl
                      have c1388 := sf_ma tw1307 (p := 69) rfl
                      have c1389 := sf_ma tw1307 (p := 70) rfl
                      have c1390 := sf_ma tw1307 (p := 127) rfl
                      have c1391 := sf_ma tw1307 (p := 128) rfl
                      have c1392 := sf_ma tw1307 (p := 129) rfl
                      refine sf_istore (L' := [(0, .inl (.ref 100000)), (1, .inl (.ref 0)), (2, .inl (.ref 71)), (3, .inl (.ref 130)), (4, .inl (.int x4))]) rfl ?_
                      refine sf_aload rfl ?_
                      refine sf_aload rfl ?_
                      refine sf_iload rfl ?_
                      refine sf_iconst sf_c1 (fun z1393 ez1393 => ?_)
                      refine sf_iadd (by omega) (fun v1394 ev1394 => ?_)
                      refine sf_sldk (x := x4) (k := 1) (by omega) (by omega) (by omega) ?_
                      clear ev1394 ez1393
                      refine sf_callv2 rfl (by omega) (by omega) ?_
                      refine sf_rv Iw1307 rfl ?_
                      refine sc_M_quotaLeft Iw1307  (fun v1395 w1396 Iw1396 tw1396 => ?_)
                      have c1398 := sf_mf tw1396 (p := 1) (j := 0) rfl
                      have c1399 := sf_mf tw1396 (p := 71) (j := 1) rfl
                      have c1400 := sf_mf tw1396 (p := 1) (j := 5) rfl
                      have c1401 := sf_mf tw1396 (p := 71) (j := 5) rfl
                      have c1402 := sf_mf tw1396 (p := 13) (j := 1) rfl
                      have c1403 := sf_mf tw1396 (p := 71) (j := 10) rfl
                      have c1404 := sf_mf tw1396 (p := 21) (j := 1) rfl
                      have c1405 := sf_mf tw1396 (p := 71) (j := 18) rfl
                      have c1406 := sf_mf tw1396 (p := 35) (j := 0) rfl
                      have c1407 := sf_mf tw1396 (p := 71) (j := 35) rfl
                      have c1408 := sf_ma tw1396 (p := 3) rfl
                      have c1409 := sf_ma tw1396 (p := 72) rfl
                      have c1410 := sf_mg tw1396 (p := 10) rfl
                      have c1411 := sf_ma tw1396 (p := 93) rfl
                      have c1412 := sf_mL tw1396 (p := 130) rfl
                      have c1413 := sf_ma tw1396 (p := 2) rfl
                      have c1414 := sf_ma tw1396 (p := 6) rfl
                      have c1415 := sf_ma tw1396 (p := 75) rfl
                      have c1416 := sf_ma tw1396 (p := 7) rfl
                      have c1417 := sf_ma tw1396 (p := 76) rfl
                      have c1418 := sf_ma tw1396 (p := 8) rfl
                      have c1419 := sf_ma tw1396 (p := 77) rfl
                      have c1420 := sf_ma tw1396 (p := 9) rfl
                      have c1421 := sf_ma tw1396 (p := 78) rfl
                      have c1422 := sf_ma tw1396 (p := 14) rfl
                      have c1423 := sf_ma tw1396 (p := 79) rfl
                      have c1424 := sf_ma tw1396 (p := 15) rfl
                      have c1425 := sf_ma tw1396 (p := 80) rfl
                      have c1426 := sf_ma tw1396 (p := 16) rfl
                      have c1427 := sf_ma tw1396 (p := 81) rfl
                      have c1428 := sf_ma tw1396 (p := 17) rfl
                      have c1429 := sf_ma tw1396 (p := 82) rfl
                      have c1430 := sf_ma tw1396 (p := 18) rfl
                      have c1431 := sf_ma tw1396 (p := 83) rfl
                      have c1432 := sf_ma tw1396 (p := 19) rfl
                      have c1433 := sf_ma tw1396 (p := 84) rfl
                      have c1434 := sf_ma tw1396 (p := 20) rfl
                      have c1435 := sf_ma tw1396 (p := 85) rfl
                      have c1436 := sf_ma tw1396 (p := 24) rfl
                      have c1437 := sf_ma tw1396 (p := 86) rfl
                      have c1438 := sf_ma tw1396 (p := 25) rfl
                      have c1439 := sf_ma tw1396 (p := 87) rfl
                      have c1440 := sf_ma tw1396 (p := 23) rfl
                      have c1441 := sf_ma tw1396 (p := 88) rfl
                      have c1442 := sf_ma tw1396 (p := 26) rfl
                      have c1443 := sf_ma tw1396 (p := 89) rfl
                      have c1444 := sf_ma tw1396 (p := 27) rfl
                      have c1445 := sf_ma tw1396 (p := 90) rfl
                      have c1446 := sf_ma tw1396 (p := 36) rfl
                      have c1447 := sf_ma tw1396 (p := 102) rfl
                      have c1448 := sf_ma tw1396 (p := 37) rfl
                      have c1449 := sf_ma tw1396 (p := 103) rfl
                      have c1450 := sf_mf tw1396 (p := 60) (j := 0) rfl
                      have c1451 := sf_ma tw1396 (p := 61) rfl
                      have c1452 := sf_ma tw1396 (p := 62) rfl
                      have c1453 := sf_ma tw1396 (p := 63) rfl
                      have c1454 := sf_ma tw1396 (p := 65) rfl
                      have c1455 := sf_ma tw1396 (p := 66) rfl
                      have c1456 := sf_mf tw1396 (p := 71) (j := 56) rfl
                      have c1457 := sf_ma tw1396 (p := 121) rfl
                      have c1458 := sf_ma tw1396 (p := 122) rfl
                      have c1459 := sf_ma tw1396 (p := 123) rfl
                      have c1460 := sf_ma tw1396 (p := 125) rfl
                      have c1461 := sf_ma tw1396 (p := 126) rfl
                      have c1462 := sf_ma tw1396 (p := 38) rfl
                      have c1463 := sf_ma tw1396 (p := 40) rfl
                      have c1464 := sf_ma tw1396 (p := 41) rfl
                      have c1465 := sf_ma tw1396 (p := 42) rfl
                      have c1466 := sf_ma tw1396 (p := 43) rfl
                      have c1467 := sf_ma tw1396 (p := 44) rfl
                      have c1468 := sf_ma tw1396 (p := 47) rfl
                      have c1469 := sf_ma tw1396 (p := 104) rfl
                      have c1470 := sf_ma tw1396 (p := 106) rfl
                      have c1471 := sf_ma tw1396 (p := 113) rfl
                      have c1472 := sf_ma tw1396 (p := 107) rfl
                      have c1473 := sf_ma tw1396 (p := 108) rfl
                      have c1474 := sf_ma tw1396 (p := 110) rfl
                      have c1475 := sf_ma tw1396 (p := 109) rfl
                      have c1476 := sf_mf tw1396 (p := 71) (j := 41) rfl
                      have c1477 := sf_ma tw1396 (p := 68) rfl
                      have c1478 := sf_ma tw1396 (p := 69) rfl
                      have c1479 := sf_ma tw1396 (p := 70) rfl
                      have c1480 := sf_ma tw1396 (p := 127) rfl
                      have c1481 := sf_ma tw1396 (p := 128) rfl
                      have c1482 := sf_ma tw1396 (p := 129) rfl
                      refine sf_istore (L' := [(5, .inl (.int v1306)), (0, .inl (.ref 100000)), (1, .inl (.ref 0)), (2, .inl (.ref 71)), (3, .inl (.ref 130)), (4, .inl (.int x4))]) rfl ?_
                      show kt_W_law_1404 N xs K _ _ _ _ _
                      refine sf_iinc (L' := [(6, .inl (.int v1395)), (5, .inl (.int v1306)), (0, .inl (.ref 100000)), (1, .inl (.ref 0)), (2, .inl (.ref 71)), (3, .inl (.ref 130))]) (x := x4) sf_c8 rfl rfl (by omega) (fun v1483 ev1483 => ?_)
                      refine sf_can (L' := [(0, .inl (.ref 100000)), (1, .inl (.ref 0)), (2, .inl (.ref 71)), (3, .inl (.ref 130)), (4, .inl (.int v1483))]) rfl ?_
                      exact ih _ _ _ _ Iw1396 (by omega) (by omega) (by omega) (by omega) (by rw [c1398, c1309]; rw [c1399, c1310]; rw [c1400, c1311]; rw [c1401, c1312]; rw [c1402, c1313]; rw [c1403, c1314]; rw [c1404, c1315]; rw [c1405, c1316]; rw [c1406, c1317]; rw [c1407, c1318]; omega) (by rw [c1408, c1319]; rw [c1409, c1320]; rw [c1399, c1310]; first | exact f_1 | exact hJ) (by rw [c1410, c1321]; rw [c1411, c1322]; first | exact f_2 | exact hK2) (by rw [c1413, c1323]; rw [c1409, c1320]; rw [c1399, c1310]; first | exact f_3 | exact hQ2) (by rw [c1414, c1324]; rw [c1415, c1325]; rw [c1401, c1312]; first | exact f_4 | exact hQ6) (by rw [c1416, c1326]; rw [c1417, c1327]; rw [c1401, c1312]; first | exact f_5 | exact hQ7) (by rw [c1418, c1328]; rw [c1419, c1329]; rw [c1401, c1312]; first | exact f_6 | exact hQ8) (by rw [c1420, c1330]; rw [c1421, c1331]; rw [c1401, c1312]; first | exact f_7 | exact hQ9) (by rw [c1422, c1332]; rw [c1423, c1333]; rw [c1403, c1314]; first | exact f_8 | exact hQ14) (by rw [c1424, c1334]; rw [c1425, c1335]; rw [c1403, c1314]; first | exact f_9 | exact hQ15) (by rw [c1426, c1336]; rw [c1427, c1337]; rw [c1403, c1314]; first | exact f_10 | exact hQ16) (by rw [c1428, c1338]; rw [c1429, c1339]; rw [c1403, c1314]; first | exact f_11 | exact hQ17) (by rw [c1430, c1340]; rw [c1431, c1341]; rw [c1403, c1314]; first | exact f_12 | exact hQ18) (by rw [c1432, c1342]; rw [c1433, c1343]; rw [c1403, c1314]; first | exact f_13 | exact hQ19) (by rw [c1434, c1344]; rw [c1435, c1345]; rw [c1403, c1314]; first | exact f_14 | exact hQ20) (by rw [c1436, c1346]; rw [c1437, c1347]; rw [c1405, c1316]; first | exact f_15 | exact hQ24) (by rw [c1438, c1348]; rw [c1439, c1349]; rw [c1405, c1316]; first | exact f_16 | exact hQ25) (by rw [c1440, c1350]; rw [c1441, c1351]; rw [c1405, c1316]; first | exact f_17 | exact hQ23) (by rw [c1442, c1352]; rw [c1443, c1353]; rw [c1405, c1316]; first | exact f_18 | exact hQ26) (by rw [c1444, c1354]; rw [c1445, c1355]; rw [c1405, c1316]; first | exact f_19 | exact hQ27) (by rw [c1446, c1356]; rw [c1447, c1357]; rw [c1407, c1318]; first | exact f_20 | exact hQ36) (by rw [c1448, c1358]; rw [c1449, c1359]; rw [c1407, c1318]; first | exact f_21 | exact hQ37) (by rw [c1450, c1360]; rw [c1456, c1366]; rw [c1451, c1361]; rw [c1452, c1362]; rw [c1453, c1363]; rw [c1454, c1364]; rw [c1455, c1365]; rw [c1457, c1367]; rw [c1458, c1368]; rw [c1459, c1369]; rw [c1460, c1370]; rw [c1461, c1371]; exact f_22) (by rw [c1462, c1372]; rw [c1469, c1379]; rw [c1463, c1373]; rw [c1470, c1380]; rw [c1465, c1375]; rw [c1472, c1382]; rw [c1466, c1376]; rw [c1473, c1383]; rw [c1468, c1378]; rw [c1475, c1385]; rw [c1467, c1377]; rw [c1474, c1384]; exact f_23) (by rw [c1463, c1373]; rw [c1462, c1372]; rw [c1464, c1374]; rw [c1471, c1381]; exact f_24) (by rw [c1447, c1357]; rw [c1449, c1359]; rw [c1470, c1380]; rw [c1407, c1318]; rw [c1476, c1386]; exact f_25) (by rw [c1470, c1380]; rw [c1407, c1318]; exact f_26) (by rw [c1477, c1387]; rw [c1480, c1390]; rw [c1478, c1388]; rw [c1481, c1391]; rw [c1479, c1389]; rw [c1482, c1392]; exact f_27) (by omega)
                    · clear h1303
                      refine sf_sw1 sf_c8 (fun h1484 => ?_) (fun h1484 => ?_)
                      · refine sf_aload rfl ?_
                        refine sf_aload rfl ?_
                        refine sf_iload rfl ?_
                        refine sf_iconst sf_c1 (fun z1485 ez1485 => ?_)
                        refine sf_iadd (by omega) (fun v1486 ev1486 => ?_)
                        refine sf_sldk (x := x4) (k := 1) (by omega) (by omega) (by omega) ?_
                        clear ev1486 ez1485
                        refine sf_aload rfl ?_
                        refine sf_iload rfl ?_
                        refine sf_iconst sf_c2 (fun z1487 ez1487 => ?_)
                        refine sf_iadd (by omega) (fun v1488 ev1488 => ?_)
                        refine sf_sldk (x := x4) (k := 2) (by omega) (by omega) (by omega) ?_
                        clear ev1488 ez1487
                        refine sf_aload rfl ?_
                        refine sf_iload rfl ?_
                        refine sf_iconst sf_c3 (fun z1489 ez1489 => ?_)
                        refine sf_iadd (by omega) (fun v1490 ev1490 => ?_)
                        refine sf_sldk (x := x4) (k := 3) (by omega) (by omega) (by omega) ?_
                        clear ev1490 ez1489
                        refine sf_aload rfl ?_
                        refine sf_iload rfl ?_
                        refine sf_iconst sf_c4 (fun z1491 ez1491 => ?_)
                        refine sf_iadd (by omega) (fun v1492 ev1492 => ?_)
                        refine sf_sldk (x := x4) (k := 4) (by omega) (by omega) (by omega) ?_
                        clear ev1492 ez1491
                        refine sf_aload rfl ?_
                        refine sf_callv6 rfl (by omega) (by omega) ?_
                        refine sc_W_part_0_130 I_w  (fun v1493 w1494 Iw1494 tw1494 lv1493 uv1493 => ?_)
                        have c1496 := sf_mf tw1494 (p := 1) (j := 0) rfl
                        have c1497 := sf_mf tw1494 (p := 71) (j := 1) rfl
                        have c1498 := sf_mf tw1494 (p := 1) (j := 5) rfl
                        have c1499 := sf_mf tw1494 (p := 71) (j := 5) rfl
                        have c1500 := sf_mf tw1494 (p := 13) (j := 1) rfl
                        have c1501 := sf_mf tw1494 (p := 71) (j := 10) rfl
                        have c1502 := sf_mf tw1494 (p := 21) (j := 1) rfl
                        have c1503 := sf_mf tw1494 (p := 71) (j := 18) rfl
                        have c1504 := sf_mf tw1494 (p := 35) (j := 0) rfl
                        have c1505 := sf_mf tw1494 (p := 71) (j := 35) rfl
                        have c1506 := sf_ma tw1494 (p := 3) rfl
                        have c1507 := sf_ma tw1494 (p := 72) rfl
                        have c1508 := sf_mg tw1494 (p := 10) rfl
                        have c1509 := sf_ma tw1494 (p := 93) rfl
                        have c1510 := sf_ma tw1494 (p := 2) rfl
                        have c1511 := sf_ma tw1494 (p := 6) rfl
                        have c1512 := sf_ma tw1494 (p := 75) rfl
                        have c1513 := sf_ma tw1494 (p := 7) rfl
                        have c1514 := sf_ma tw1494 (p := 76) rfl
                        have c1515 := sf_ma tw1494 (p := 8) rfl
                        have c1516 := sf_ma tw1494 (p := 77) rfl
                        have c1517 := sf_ma tw1494 (p := 9) rfl
                        have c1518 := sf_ma tw1494 (p := 78) rfl
                        have c1519 := sf_ma tw1494 (p := 14) rfl
                        have c1520 := sf_ma tw1494 (p := 79) rfl
                        have c1521 := sf_ma tw1494 (p := 15) rfl
                        have c1522 := sf_ma tw1494 (p := 80) rfl
                        have c1523 := sf_ma tw1494 (p := 16) rfl
                        have c1524 := sf_ma tw1494 (p := 81) rfl
                        have c1525 := sf_ma tw1494 (p := 17) rfl
                        have c1526 := sf_ma tw1494 (p := 82) rfl
                        have c1527 := sf_ma tw1494 (p := 18) rfl
                        have c1528 := sf_ma tw1494 (p := 83) rfl
                        have c1529 := sf_ma tw1494 (p := 19) rfl
                        have c1530 := sf_ma tw1494 (p := 84) rfl
                        have c1531 := sf_ma tw1494 (p := 20) rfl
                        have c1532 := sf_ma tw1494 (p := 85) rfl
                        have c1533 := sf_ma tw1494 (p := 24) rfl
                        have c1534 := sf_ma tw1494 (p := 86) rfl
                        have c1535 := sf_ma tw1494 (p := 25) rfl
                        have c1536 := sf_ma tw1494 (p := 87) rfl
                        have c1537 := sf_ma tw1494 (p := 23) rfl
                        have c1538 := sf_ma tw1494 (p := 88) rfl
                        have c1539 := sf_ma tw1494 (p := 26) rfl
                        have c1540 := sf_ma tw1494 (p := 89) rfl
                        have c1541 := sf_ma tw1494 (p := 27) rfl
                        have c1542 := sf_ma tw1494 (p := 90) rfl
                        have c1543 := sf_ma tw1494 (p := 36) rfl
                        have c1544 := sf_ma tw1494 (p := 102) rfl
                        have c1545 := sf_ma tw1494 (p := 37) rfl
                        have c1546 := sf_ma tw1494 (p := 103) rfl
                        have c1547 := sf_mf tw1494 (p := 60) (j := 0) rfl
                        have c1548 := sf_ma tw1494 (p := 61) rfl
                        have c1549 := sf_ma tw1494 (p := 62) rfl
                        have c1550 := sf_ma tw1494 (p := 63) rfl
                        have c1551 := sf_ma tw1494 (p := 65) rfl
                        have c1552 := sf_ma tw1494 (p := 66) rfl
                        have c1553 := sf_mf tw1494 (p := 71) (j := 56) rfl
                        have c1554 := sf_ma tw1494 (p := 121) rfl
                        have c1555 := sf_ma tw1494 (p := 122) rfl
                        have c1556 := sf_ma tw1494 (p := 123) rfl
                        have c1557 := sf_ma tw1494 (p := 125) rfl
                        have c1558 := sf_ma tw1494 (p := 126) rfl
                        have c1559 := sf_ma tw1494 (p := 38) rfl
                        have c1560 := sf_ma tw1494 (p := 40) rfl
                        have c1561 := sf_ma tw1494 (p := 41) rfl
                        have c1562 := sf_ma tw1494 (p := 42) rfl
                        have c1563 := sf_ma tw1494 (p := 43) rfl
                        have c1564 := sf_ma tw1494 (p := 44) rfl
                        have c1565 := sf_ma tw1494 (p := 47) rfl
                        have c1566 := sf_ma tw1494 (p := 104) rfl
                        have c1567 := sf_ma tw1494 (p := 106) rfl
                        have c1568 := sf_ma tw1494 (p := 113) rfl
                        have c1569 := sf_ma tw1494 (p := 107) rfl
                        have c1570 := sf_ma tw1494 (p := 108) rfl
                        have c1571 := sf_ma tw1494 (p := 110) rfl
                        have c1572 := sf_ma tw1494 (p := 109) rfl
                        have c1573 := sf_mf tw1494 (p := 71) (j := 41) rfl
                        have c1574 := sf_ma tw1494 (p := 68) rfl
                        have c1575 := sf_ma tw1494 (p := 69) rfl
                        have c1576 := sf_ma tw1494 (p := 70) rfl
                        have c1577 := sf_ma tw1494 (p := 127) rfl
                        have c1578 := sf_ma tw1494 (p := 128) rfl
                        have c1579 := sf_ma tw1494 (p := 129) rfl
                        refine sf_istore (L' := [(0, .inl (.ref 100000)), (1, .inl (.ref 0)), (2, .inl (.ref 71)), (3, .inl (.ref 130)), (4, .inl (.int x4))]) rfl ?_
                        refine sf_aload rfl ?_
                        refine sf_aload rfl ?_
                        refine sf_iload rfl ?_
                        refine sf_iconst sf_c1 (fun z1580 ez1580 => ?_)
                        refine sf_iadd (by omega) (fun v1581 ev1581 => ?_)
                        refine sf_sldk (x := x4) (k := 1) (by omega) (by omega) (by omega) ?_
                        clear ev1581 ez1580
                        refine sf_aload rfl ?_
                        refine sf_iload rfl ?_
                        refine sf_iconst sf_c2 (fun z1582 ez1582 => ?_)
                        refine sf_iadd (by omega) (fun v1583 ev1583 => ?_)
                        refine sf_sldk (x := x4) (k := 2) (by omega) (by omega) (by omega) ?_
                        clear ev1583 ez1582
                        refine sf_aload rfl ?_
                        refine sf_iload rfl ?_
                        refine sf_iconst sf_c3 (fun z1584 ez1584 => ?_)
                        refine sf_iadd (by omega) (fun v1585 ev1585 => ?_)
                        refine sf_sldk (x := x4) (k := 3) (by omega) (by omega) (by omega) ?_
                        clear ev1585 ez1584
                        refine sf_aload rfl ?_
                        refine sf_iload rfl ?_
                        refine sf_iconst sf_c4 (fun z1586 ez1586 => ?_)
                        refine sf_iadd (by omega) (fun v1587 ev1587 => ?_)
                        refine sf_sldk (x := x4) (k := 4) (by omega) (by omega) (by omega) ?_
                        clear ev1587 ez1586
                        refine sf_callv5 rfl (by omega) (by omega) ?_
                        refine sf_rv Iw1494 rfl ?_
                        refine sc_M_part Iw1494  (fun v1588 w1589 Iw1589 tw1589 lv1588 uv1588 => ?_)
                        have c1591 := sf_mf tw1589 (p := 1) (j := 0) rfl
                        have c1592 := sf_mf tw1589 (p := 71) (j := 1) rfl
                        have c1593 := sf_mf tw1589 (p := 1) (j := 5) rfl
                        have c1594 := sf_mf tw1589 (p := 71) (j := 5) rfl
                        have c1595 := sf_mf tw1589 (p := 13) (j := 1) rfl
                        have c1596 := sf_mf tw1589 (p := 71) (j := 10) rfl
                        have c1597 := sf_mf tw1589 (p := 21) (j := 1) rfl
                        have c1598 := sf_mf tw1589 (p := 71) (j := 18) rfl
                        have c1599 := sf_mf tw1589 (p := 35) (j := 0) rfl
                        have c1600 := sf_mf tw1589 (p := 71) (j := 35) rfl
                        have c1601 := sf_ma tw1589 (p := 3) rfl
                        have c1602 := sf_ma tw1589 (p := 72) rfl
                        have c1603 := sf_mg tw1589 (p := 10) rfl
                        have c1604 := sf_ma tw1589 (p := 93) rfl
                        have c1605 := sf_mL tw1589 (p := 130) rfl
                        have c1606 := sf_ma tw1589 (p := 2) rfl
                        have c1607 := sf_ma tw1589 (p := 6) rfl
                        have c1608 := sf_ma tw1589 (p := 75) rfl
                        have c1609 := sf_ma tw1589 (p := 7) rfl
                        have c1610 := sf_ma tw1589 (p := 76) rfl
                        have c1611 := sf_ma tw1589 (p := 8) rfl
                        have c1612 := sf_ma tw1589 (p := 77) rfl
                        have c1613 := sf_ma tw1589 (p := 9) rfl
                        have c1614 := sf_ma tw1589 (p := 78) rfl
                        have c1615 := sf_ma tw1589 (p := 14) rfl
                        have c1616 := sf_ma tw1589 (p := 79) rfl
                        have c1617 := sf_ma tw1589 (p := 15) rfl
                        have c1618 := sf_ma tw1589 (p := 80) rfl
                        have c1619 := sf_ma tw1589 (p := 16) rfl
                        have c1620 := sf_ma tw1589 (p := 81) rfl
                        have c1621 := sf_ma tw1589 (p := 17) rfl
                        have c1622 := sf_ma tw1589 (p := 82) rfl
                        have c1623 := sf_ma tw1589 (p := 18) rfl
                        have c1624 := sf_ma tw1589 (p := 83) rfl
                        have c1625 := sf_ma tw1589 (p := 19) rfl
                        have c1626 := sf_ma tw1589 (p := 84) rfl
                        have c1627 := sf_ma tw1589 (p := 20) rfl
                        have c1628 := sf_ma tw1589 (p := 85) rfl
                        have c1629 := sf_ma tw1589 (p := 24) rfl
                        have c1630 := sf_ma tw1589 (p := 86) rfl
                        have c1631 := sf_ma tw1589 (p := 25) rfl
                        have c1632 := sf_ma tw1589 (p := 87) rfl
                        have c1633 := sf_ma tw1589 (p := 23) rfl
                        have c1634 := sf_ma tw1589 (p := 88) rfl
                        have c1635 := sf_ma tw1589 (p := 26) rfl
                        have c1636 := sf_ma tw1589 (p := 89) rfl
                        have c1637 := sf_ma tw1589 (p := 27) rfl
                        have c1638 := sf_ma tw1589 (p := 90) rfl
                        have c1639 := sf_ma tw1589 (p := 36) rfl
                        have c1640 := sf_ma tw1589 (p := 102) rfl
                        have c1641 := sf_ma tw1589 (p := 37) rfl
                        have c1642 := sf_ma tw1589 (p := 103) rfl
                        have c1643 := sf_mf tw1589 (p := 60) (j := 0) rfl
                        have c1644 := sf_ma tw1589 (p := 61) rfl
                        have c1645 := sf_ma tw1589 (p := 62) rfl
                        have c1646 := sf_ma tw1589 (p := 63) rfl
                        have c1647 := sf_ma tw1589 (p := 65) rfl
                        have c1648 := sf_ma tw1589 (p := 66) rfl
                        have c1649 := sf_mf tw1589 (p := 71) (j := 56) rfl
                        have c1650 := sf_ma tw1589 (p := 121) rfl
                        have c1651 := sf_ma tw1589 (p := 122) rfl
                        have c1652 := sf_ma tw1589 (p := 123) rfl
                        have c1653 := sf_ma tw1589 (p := 125) rfl
                        have c1654 := sf_ma tw1589 (p := 126) rfl
                        have c1655 := sf_ma tw1589 (p := 38) rfl
                        have c1656 := sf_ma tw1589 (p := 40) rfl
                        have c1657 := sf_ma tw1589 (p := 41) rfl
                        have c1658 := sf_ma tw1589 (p := 42) rfl
                        have c1659 := sf_ma tw1589 (p := 43) rfl
                        have c1660 := sf_ma tw1589 (p := 44) rfl
                        have c1661 := sf_ma tw1589 (p := 47) rfl
                        have c1662 := sf_ma tw1589 (p := 104) rfl
                        have c1663 := sf_ma tw1589 (p := 106) rfl
                        have c1664 := sf_ma tw1589 (p := 113) rfl
                        have c1665 := sf_ma tw1589 (p := 107) rfl
                        have c1666 := sf_ma tw1589 (p := 108) rfl
                        have c1667 := sf_ma tw1589 (p := 110) rfl
                        have c1668 := sf_ma tw1589 (p := 109) rfl
                        have c1669 := sf_mf tw1589 (p := 71) (j := 41) rfl
                        have c1670 := sf_ma tw1589 (p := 68) rfl
                        have c1671 := sf_ma tw1589 (p := 69) rfl
                        have c1672 := sf_ma tw1589 (p := 70) rfl
                        have c1673 := sf_ma tw1589 (p := 127) rfl
                        have c1674 := sf_ma tw1589 (p := 128) rfl
                        have c1675 := sf_ma tw1589 (p := 129) rfl
                        refine sf_istore (L' := [(5, .inl (.int v1493)), (0, .inl (.ref 100000)), (1, .inl (.ref 0)), (2, .inl (.ref 71)), (3, .inl (.ref 130)), (4, .inl (.int x4))]) rfl ?_
                        show kt_W_law_1404 N xs K _ _ _ _ _
                        refine sf_iinc (L' := [(6, .inl (.int v1588)), (5, .inl (.int v1493)), (0, .inl (.ref 100000)), (1, .inl (.ref 0)), (2, .inl (.ref 71)), (3, .inl (.ref 130))]) (x := x4) sf_c8 rfl rfl (by omega) (fun v1676 ev1676 => ?_)
                        refine sf_can (L' := [(0, .inl (.ref 100000)), (1, .inl (.ref 0)), (2, .inl (.ref 71)), (3, .inl (.ref 130)), (4, .inl (.int v1676))]) rfl ?_
                        exact ih _ _ _ _ Iw1589 (by omega) (by omega) (by omega) (by omega) (by rw [c1591, c1496]; rw [c1592, c1497]; rw [c1593, c1498]; rw [c1594, c1499]; rw [c1595, c1500]; rw [c1596, c1501]; rw [c1597, c1502]; rw [c1598, c1503]; rw [c1599, c1504]; rw [c1600, c1505]; omega) (by rw [c1601, c1506]; rw [c1602, c1507]; rw [c1592, c1497]; first | exact f_1 | exact hJ) (by rw [c1603, c1508]; rw [c1604, c1509]; first | exact f_2 | exact hK2) (by rw [c1606, c1510]; rw [c1602, c1507]; rw [c1592, c1497]; first | exact f_3 | exact hQ2) (by rw [c1607, c1511]; rw [c1608, c1512]; rw [c1594, c1499]; first | exact f_4 | exact hQ6) (by rw [c1609, c1513]; rw [c1610, c1514]; rw [c1594, c1499]; first | exact f_5 | exact hQ7) (by rw [c1611, c1515]; rw [c1612, c1516]; rw [c1594, c1499]; first | exact f_6 | exact hQ8) (by rw [c1613, c1517]; rw [c1614, c1518]; rw [c1594, c1499]; first | exact f_7 | exact hQ9) (by rw [c1615, c1519]; rw [c1616, c1520]; rw [c1596, c1501]; first | exact f_8 | exact hQ14) (by rw [c1617, c1521]; rw [c1618, c1522]; rw [c1596, c1501]; first | exact f_9 | exact hQ15) (by rw [c1619, c1523]; rw [c1620, c1524]; rw [c1596, c1501]; first | exact f_10 | exact hQ16) (by rw [c1621, c1525]; rw [c1622, c1526]; rw [c1596, c1501]; first | exact f_11 | exact hQ17) (by rw [c1623, c1527]; rw [c1624, c1528]; rw [c1596, c1501]; first | exact f_12 | exact hQ18) (by rw [c1625, c1529]; rw [c1626, c1530]; rw [c1596, c1501]; first | exact f_13 | exact hQ19) (by rw [c1627, c1531]; rw [c1628, c1532]; rw [c1596, c1501]; first | exact f_14 | exact hQ20) (by rw [c1629, c1533]; rw [c1630, c1534]; rw [c1598, c1503]; first | exact f_15 | exact hQ24) (by rw [c1631, c1535]; rw [c1632, c1536]; rw [c1598, c1503]; first | exact f_16 | exact hQ25) (by rw [c1633, c1537]; rw [c1634, c1538]; rw [c1598, c1503]; first | exact f_17 | exact hQ23) (by rw [c1635, c1539]; rw [c1636, c1540]; rw [c1598, c1503]; first | exact f_18 | exact hQ26) (by rw [c1637, c1541]; rw [c1638, c1542]; rw [c1598, c1503]; first | exact f_19 | exact hQ27) (by rw [c1639, c1543]; rw [c1640, c1544]; rw [c1600, c1505]; first | exact f_20 | exact hQ36) (by rw [c1641, c1545]; rw [c1642, c1546]; rw [c1600, c1505]; first | exact f_21 | exact hQ37) (by rw [c1643, c1547]; rw [c1649, c1553]; rw [c1644, c1548]; rw [c1645, c1549]; rw [c1646, c1550]; rw [c1647, c1551]; rw [c1648, c1552]; rw [c1650, c1554]; rw [c1651, c1555]; rw [c1652, c1556]; rw [c1653, c1557]; rw [c1654, c1558]; exact f_22) (by rw [c1655, c1559]; rw [c1662, c1566]; rw [c1656, c1560]; rw [c1663, c1567]; rw [c1658, c1562]; rw [c1665, c1569]; rw [c1659, c1563]; rw [c1666, c1570]; rw [c1661, c1565]; rw [c1668, c1572]; rw [c1660, c1564]; rw [c1667, c1571]; exact f_23) (by rw [c1656, c1560]; rw [c1655, c1559]; rw [c1657, c1561]; rw [c1664, c1568]; exact f_24) (by rw [c1640, c1544]; rw [c1642, c1546]; rw [c1663, c1567]; rw [c1600, c1505]; rw [c1669, c1573]; exact f_25) (by rw [c1663, c1567]; rw [c1600, c1505]; exact f_26) (by rw [c1670, c1574]; rw [c1673, c1577]; rw [c1671, c1575]; rw [c1674, c1578]; rw [c1672, c1576]; rw [c1675, c1579]; exact f_27) (by omega)
                      · clear h1484
                        refine sf_sw1 sf_c9 (fun h1677 => ?_) (fun h1677 => ?_)
                        · refine sf_aload rfl ?_
                          refine sf_aload rfl ?_
                          refine sf_iload rfl ?_
                          refine sf_iconst sf_c1 (fun z1678 ez1678 => ?_)
                          refine sf_iadd (by omega) (fun v1679 ev1679 => ?_)
                          refine sf_sldk (x := x4) (k := 1) (by omega) (by omega) (by omega) ?_
                          clear ev1679 ez1678
                          refine sf_aload rfl ?_
                          refine sf_iload rfl ?_
                          refine sf_iconst sf_c2 (fun z1680 ez1680 => ?_)
                          refine sf_iadd (by omega) (fun v1681 ev1681 => ?_)
                          refine sf_sldk (x := x4) (k := 2) (by omega) (by omega) (by omega) ?_
                          clear ev1681 ez1680
                          refine sf_callv3 rfl (by omega) (by omega) ?_
                          refine sc_W_zone_0 I_w  (fun v1682 w1683 Iw1683 tw1683 lv1682 uv1682 q1684_0 => ?_)
                          have c1685 := sf_mf tw1683 (p := 1) (j := 0) rfl
                          have c1686 := sf_mf tw1683 (p := 71) (j := 1) rfl
                          have c1687 := sf_mf tw1683 (p := 1) (j := 5) rfl
                          have c1688 := sf_mf tw1683 (p := 71) (j := 5) rfl
                          have c1689 := sf_mf tw1683 (p := 13) (j := 1) rfl
                          have c1690 := sf_mf tw1683 (p := 71) (j := 10) rfl
                          have c1691 := sf_mf tw1683 (p := 21) (j := 1) rfl
                          have c1692 := sf_mf tw1683 (p := 71) (j := 18) rfl
                          have c1693 := sf_mf tw1683 (p := 35) (j := 0) rfl
                          have c1694 := sf_mf tw1683 (p := 71) (j := 35) rfl
                          have c1695 := sf_ma tw1683 (p := 3) rfl
                          have c1696 := sf_ma tw1683 (p := 72) rfl
                          have c1697 := sf_mg tw1683 (p := 10) rfl
                          have c1698 := sf_ma tw1683 (p := 93) rfl
                          have c1699 := sf_mL tw1683 (p := 130) rfl
                          have c1700 := sf_ma tw1683 (p := 2) rfl
                          have c1701 := sf_ma tw1683 (p := 6) rfl
                          have c1702 := sf_ma tw1683 (p := 75) rfl
                          have c1703 := sf_ma tw1683 (p := 7) rfl
                          have c1704 := sf_ma tw1683 (p := 76) rfl
                          have c1705 := sf_ma tw1683 (p := 8) rfl
                          have c1706 := sf_ma tw1683 (p := 77) rfl
                          have c1707 := sf_ma tw1683 (p := 9) rfl
                          have c1708 := sf_ma tw1683 (p := 78) rfl
                          have c1709 := sf_ma tw1683 (p := 14) rfl
                          have c1710 := sf_ma tw1683 (p := 79) rfl
                          have c1711 := sf_ma tw1683 (p := 15) rfl
                          have c1712 := sf_ma tw1683 (p := 80) rfl
                          have c1713 := sf_ma tw1683 (p := 16) rfl
                          have c1714 := sf_ma tw1683 (p := 81) rfl
                          have c1715 := sf_ma tw1683 (p := 17) rfl
                          have c1716 := sf_ma tw1683 (p := 82) rfl
                          have c1717 := sf_ma tw1683 (p := 18) rfl
                          have c1718 := sf_ma tw1683 (p := 83) rfl
                          have c1719 := sf_ma tw1683 (p := 19) rfl
                          have c1720 := sf_ma tw1683 (p := 84) rfl
                          have c1721 := sf_ma tw1683 (p := 20) rfl
                          have c1722 := sf_ma tw1683 (p := 85) rfl
                          have c1723 := sf_ma tw1683 (p := 24) rfl
                          have c1724 := sf_ma tw1683 (p := 86) rfl
                          have c1725 := sf_ma tw1683 (p := 25) rfl
                          have c1726 := sf_ma tw1683 (p := 87) rfl
                          have c1727 := sf_ma tw1683 (p := 23) rfl
                          have c1728 := sf_ma tw1683 (p := 88) rfl
                          have c1729 := sf_ma tw1683 (p := 26) rfl
                          have c1730 := sf_ma tw1683 (p := 89) rfl
                          have c1731 := sf_ma tw1683 (p := 27) rfl
                          have c1732 := sf_ma tw1683 (p := 90) rfl
                          have c1733 := sf_ma tw1683 (p := 36) rfl
                          have c1734 := sf_ma tw1683 (p := 102) rfl
                          have c1735 := sf_ma tw1683 (p := 37) rfl
                          have c1736 := sf_ma tw1683 (p := 103) rfl
                          have c1737 := sf_mf tw1683 (p := 60) (j := 0) rfl
                          have c1738 := sf_ma tw1683 (p := 61) rfl
                          have c1739 := sf_ma tw1683 (p := 62) rfl
                          have c1740 := sf_ma tw1683 (p := 63) rfl
                          have c1741 := sf_ma tw1683 (p := 65) rfl
                          have c1742 := sf_ma tw1683 (p := 66) rfl
                          have c1743 := sf_mf tw1683 (p := 71) (j := 56) rfl
                          have c1744 := sf_ma tw1683 (p := 121) rfl
                          have c1745 := sf_ma tw1683 (p := 122) rfl
                          have c1746 := sf_ma tw1683 (p := 123) rfl
                          have c1747 := sf_ma tw1683 (p := 125) rfl
                          have c1748 := sf_ma tw1683 (p := 126) rfl
                          have c1749 := sf_ma tw1683 (p := 38) rfl
                          have c1750 := sf_ma tw1683 (p := 40) rfl
                          have c1751 := sf_ma tw1683 (p := 41) rfl
                          have c1752 := sf_ma tw1683 (p := 42) rfl
                          have c1753 := sf_ma tw1683 (p := 43) rfl
                          have c1754 := sf_ma tw1683 (p := 44) rfl
                          have c1755 := sf_ma tw1683 (p := 47) rfl
                          have c1756 := sf_ma tw1683 (p := 104) rfl
                          have c1757 := sf_ma tw1683 (p := 106) rfl
                          have c1758 := sf_ma tw1683 (p := 113) rfl
                          have c1759 := sf_ma tw1683 (p := 107) rfl
                          have c1760 := sf_ma tw1683 (p := 108) rfl
                          have c1761 := sf_ma tw1683 (p := 110) rfl
                          have c1762 := sf_ma tw1683 (p := 109) rfl
                          have c1763 := sf_mf tw1683 (p := 71) (j := 41) rfl
                          have c1764 := sf_ma tw1683 (p := 68) rfl
                          have c1765 := sf_ma tw1683 (p := 69) rfl
                          have c1766 := sf_ma tw1683 (p := 70) rfl
                          have c1767 := sf_ma tw1683 (p := 127) rfl
                          have c1768 := sf_ma tw1683 (p := 128) rfl
                          have c1769 := sf_ma tw1683 (p := 129) rfl
                          refine sf_istore (L' := [(0, .inl (.ref 100000)), (1, .inl (.ref 0)), (2, .inl (.ref 71)), (3, .inl (.ref 130)), (4, .inl (.int x4))]) rfl ?_
                          refine sf_aload rfl ?_
                          refine sf_aload rfl ?_
                          refine sf_iload rfl ?_
                          refine sf_iconst sf_c1 (fun z1770 ez1770 => ?_)
                          refine sf_iadd (by omega) (fun v1771 ev1771 => ?_)
                          refine sf_sldk (x := x4) (k := 1) (by omega) (by omega) (by omega) ?_
                          clear ev1771 ez1770
                          refine sf_aload rfl ?_
                          refine sf_iload rfl ?_
                          refine sf_iconst sf_c2 (fun z1772 ez1772 => ?_)
                          refine sf_iadd (by omega) (fun v1773 ev1773 => ?_)
                          refine sf_sldk (x := x4) (k := 2) (by omega) (by omega) (by omega) ?_
                          clear ev1773 ez1772
                          refine sf_callv3 rfl (by omega) (by omega) ?_
                          refine sf_rv Iw1683 rfl ?_
                          refine sc_M_zone Iw1683  (fun w1774 Iw1774 tw1774 q1775_0 => ?_)
                          have c1776 := sf_mf tw1774 (p := 1) (j := 0) rfl
                          have c1777 := sf_mf tw1774 (p := 71) (j := 1) rfl
                          have c1778 := sf_mf tw1774 (p := 1) (j := 5) rfl
                          have c1779 := sf_mf tw1774 (p := 71) (j := 5) rfl
                          have c1780 := sf_mf tw1774 (p := 13) (j := 1) rfl
                          have c1781 := sf_mf tw1774 (p := 71) (j := 10) rfl
                          have c1782 := sf_mf tw1774 (p := 21) (j := 1) rfl
                          have c1783 := sf_mf tw1774 (p := 71) (j := 18) rfl
                          have c1784 := sf_mf tw1774 (p := 35) (j := 0) rfl
                          have c1785 := sf_mf tw1774 (p := 71) (j := 35) rfl
                          have c1786 := sf_ma tw1774 (p := 3) rfl
                          have c1787 := sf_ma tw1774 (p := 72) rfl
                          have c1788 := sf_mg tw1774 (p := 10) rfl
                          have c1789 := sf_ma tw1774 (p := 93) rfl
                          have c1790 := sf_mL tw1774 (p := 130) rfl
                          have c1791 := sf_ma tw1774 (p := 2) rfl
                          have c1792 := sf_ma tw1774 (p := 6) rfl
                          have c1793 := sf_ma tw1774 (p := 75) rfl
                          have c1794 := sf_ma tw1774 (p := 7) rfl
                          have c1795 := sf_ma tw1774 (p := 76) rfl
                          have c1796 := sf_ma tw1774 (p := 8) rfl
                          have c1797 := sf_ma tw1774 (p := 77) rfl
                          have c1798 := sf_ma tw1774 (p := 9) rfl
                          have c1799 := sf_ma tw1774 (p := 78) rfl
                          have c1800 := sf_ma tw1774 (p := 14) rfl
                          have c1801 := sf_ma tw1774 (p := 79) rfl
                          have c1802 := sf_ma tw1774 (p := 15) rfl
                          have c1803 := sf_ma tw1774 (p := 80) rfl
                          have c1804 := sf_ma tw1774 (p := 16) rfl
                          have c1805 := sf_ma tw1774 (p := 81) rfl
                          have c1806 := sf_ma tw1774 (p := 17) rfl
                          have c1807 := sf_ma tw1774 (p := 82) rfl
                          have c1808 := sf_ma tw1774 (p := 18) rfl
                          have c1809 := sf_ma tw1774 (p := 83) rfl
                          have c1810 := sf_ma tw1774 (p := 19) rfl
                          have c1811 := sf_ma tw1774 (p := 84) rfl
                          have c1812 := sf_ma tw1774 (p := 20) rfl
                          have c1813 := sf_ma tw1774 (p := 85) rfl
                          have c1814 := sf_ma tw1774 (p := 24) rfl
                          have c1815 := sf_ma tw1774 (p := 86) rfl
                          have c1816 := sf_ma tw1774 (p := 25) rfl
                          have c1817 := sf_ma tw1774 (p := 87) rfl
                          have c1818 := sf_ma tw1774 (p := 23) rfl
                          have c1819 := sf_ma tw1774 (p := 88) rfl
                          have c1820 := sf_ma tw1774 (p := 26) rfl
                          have c1821 := sf_ma tw1774 (p := 89) rfl
                          have c1822 := sf_ma tw1774 (p := 27) rfl
                          have c1823 := sf_ma tw1774 (p := 90) rfl
                          have c1824 := sf_ma tw1774 (p := 36) rfl
                          have c1825 := sf_ma tw1774 (p := 102) rfl
                          have c1826 := sf_ma tw1774 (p := 37) rfl
                          have c1827 := sf_ma tw1774 (p := 103) rfl
                          have c1828 := sf_mf tw1774 (p := 60) (j := 0) rfl
                          have c1829 := sf_ma tw1774 (p := 61) rfl
                          have c1830 := sf_ma tw1774 (p := 62) rfl
                          have c1831 := sf_ma tw1774 (p := 63) rfl
                          have c1832 := sf_ma tw1774 (p := 65) rfl
                          have c1833 := sf_ma tw1774 (p := 66) rfl
                          have c1834 := sf_mf tw1774 (p := 71) (j := 56) rfl
                          have c1835 := sf_ma tw1774 (p := 121) rfl
                          have c1836 := sf_ma tw1774 (p := 122) rfl
                          have c1837 := sf_ma tw1774 (p := 123) rfl
                          have c1838 := sf_ma tw1774 (p := 125) rfl
                          have c1839 := sf_ma tw1774 (p := 126) rfl
                          have c1840 := sf_ma tw1774 (p := 38) rfl
                          have c1841 := sf_ma tw1774 (p := 40) rfl
                          have c1842 := sf_ma tw1774 (p := 41) rfl
                          have c1843 := sf_ma tw1774 (p := 42) rfl
                          have c1844 := sf_ma tw1774 (p := 43) rfl
                          have c1845 := sf_ma tw1774 (p := 44) rfl
                          have c1846 := sf_ma tw1774 (p := 47) rfl
                          have c1847 := sf_ma tw1774 (p := 104) rfl
                          have c1848 := sf_ma tw1774 (p := 106) rfl
                          have c1849 := sf_ma tw1774 (p := 113) rfl
                          have c1850 := sf_ma tw1774 (p := 107) rfl
                          have c1851 := sf_ma tw1774 (p := 108) rfl
                          have c1852 := sf_ma tw1774 (p := 110) rfl
                          have c1853 := sf_ma tw1774 (p := 109) rfl
                          have c1854 := sf_mf tw1774 (p := 71) (j := 41) rfl
                          have c1855 := sf_ma tw1774 (p := 68) rfl
                          have c1856 := sf_ma tw1774 (p := 69) rfl
                          have c1857 := sf_ma tw1774 (p := 70) rfl
                          have c1858 := sf_ma tw1774 (p := 127) rfl
                          have c1859 := sf_ma tw1774 (p := 128) rfl
                          have c1860 := sf_ma tw1774 (p := 129) rfl
                          show kt_W_law_1404 N xs K _ _ _ _ _
                          refine sf_iinc (L' := [(5, .inl (.int v1682)), (0, .inl (.ref 100000)), (1, .inl (.ref 0)), (2, .inl (.ref 71)), (3, .inl (.ref 130))]) (x := x4) sf_c8 rfl rfl (by omega) (fun v1861 ev1861 => ?_)
                          refine sf_can (L' := [(0, .inl (.ref 100000)), (1, .inl (.ref 0)), (2, .inl (.ref 71)), (3, .inl (.ref 130)), (4, .inl (.int v1861))]) rfl ?_
                          exact ih _ _ _ _ Iw1774 (by omega) (by omega) (by omega) (by omega) (by rw [c1776, c1685]; rw [c1777, c1686]; rw [c1778, c1687]; rw [c1779, c1688]; rw [c1780, c1689]; rw [c1781, c1690]; rw [c1782, c1691]; rw [c1783, c1692]; rw [c1784, c1693]; rw [c1785, c1694]; omega) (by rw [c1786, c1695]; rw [c1787, c1696]; rw [c1777, c1686]; first | exact f_1 | exact hJ) (by rw [c1788, c1697]; rw [c1789, c1698]; first | exact f_2 | exact hK2) (by rw [c1791, c1700]; rw [c1787, c1696]; rw [c1777, c1686]; first | exact f_3 | exact hQ2) (by rw [c1792, c1701]; rw [c1793, c1702]; rw [c1779, c1688]; first | exact f_4 | exact hQ6) (by rw [c1794, c1703]; rw [c1795, c1704]; rw [c1779, c1688]; first | exact f_5 | exact hQ7) (by rw [c1796, c1705]; rw [c1797, c1706]; rw [c1779, c1688]; first | exact f_6 | exact hQ8) (by rw [c1798, c1707]; rw [c1799, c1708]; rw [c1779, c1688]; first | exact f_7 | exact hQ9) (by rw [c1800, c1709]; rw [c1801, c1710]; rw [c1781, c1690]; first | exact f_8 | exact hQ14) (by rw [c1802, c1711]; rw [c1803, c1712]; rw [c1781, c1690]; first | exact f_9 | exact hQ15) (by rw [c1804, c1713]; rw [c1805, c1714]; rw [c1781, c1690]; first | exact f_10 | exact hQ16) (by rw [c1806, c1715]; rw [c1807, c1716]; rw [c1781, c1690]; first | exact f_11 | exact hQ17) (by rw [c1808, c1717]; rw [c1809, c1718]; rw [c1781, c1690]; first | exact f_12 | exact hQ18) (by rw [c1810, c1719]; rw [c1811, c1720]; rw [c1781, c1690]; first | exact f_13 | exact hQ19) (by rw [c1812, c1721]; rw [c1813, c1722]; rw [c1781, c1690]; first | exact f_14 | exact hQ20) (by rw [c1814, c1723]; rw [c1815, c1724]; rw [c1783, c1692]; first | exact f_15 | exact hQ24) (by rw [c1816, c1725]; rw [c1817, c1726]; rw [c1783, c1692]; first | exact f_16 | exact hQ25) (by rw [c1818, c1727]; rw [c1819, c1728]; rw [c1783, c1692]; first | exact f_17 | exact hQ23) (by rw [c1820, c1729]; rw [c1821, c1730]; rw [c1783, c1692]; first | exact f_18 | exact hQ26) (by rw [c1822, c1731]; rw [c1823, c1732]; rw [c1783, c1692]; first | exact f_19 | exact hQ27) (by rw [c1824, c1733]; rw [c1825, c1734]; rw [c1785, c1694]; first | exact f_20 | exact hQ36) (by rw [c1826, c1735]; rw [c1827, c1736]; rw [c1785, c1694]; first | exact f_21 | exact hQ37) (by rw [c1828, c1737]; rw [c1834, c1743]; rw [c1829, c1738]; rw [c1830, c1739]; rw [c1831, c1740]; rw [c1832, c1741]; rw [c1833, c1742]; rw [c1835, c1744]; rw [c1836, c1745]; rw [c1837, c1746]; rw [c1838, c1747]; rw [c1839, c1748]; exact f_22) (by rw [c1840, c1749]; rw [c1847, c1756]; rw [c1841, c1750]; rw [c1848, c1757]; rw [c1843, c1752]; rw [c1850, c1759]; rw [c1844, c1753]; rw [c1851, c1760]; rw [c1846, c1755]; rw [c1853, c1762]; rw [c1845, c1754]; rw [c1852, c1761]; exact f_23) (by rw [c1841, c1750]; rw [c1840, c1749]; rw [c1842, c1751]; rw [c1849, c1758]; exact f_24) (by rw [c1825, c1734]; rw [c1827, c1736]; rw [c1848, c1757]; rw [c1785, c1694]; rw [c1854, c1763]; exact f_25) (by rw [c1848, c1757]; rw [c1785, c1694]; exact f_26) (by rw [c1855, c1764]; rw [c1858, c1767]; rw [c1856, c1765]; rw [c1859, c1768]; rw [c1857, c1766]; rw [c1860, c1769]; exact f_27) (by omega)
                        · clear h1677
                          refine sf_sw1 sf_c10 (fun h1862 => ?_) (fun h1862 => ?_)
                          · refine sf_aload rfl ?_
                            refine sf_aload rfl ?_
                            refine sf_iload rfl ?_
                            refine sf_iconst sf_c1 (fun z1863 ez1863 => ?_)
                            refine sf_iadd (by omega) (fun v1864 ev1864 => ?_)
                            refine sf_sldk (x := x4) (k := 1) (by omega) (by omega) (by omega) ?_
                            clear ev1864 ez1863
                            refine sf_aload rfl ?_
                            refine sf_iload rfl ?_
                            refine sf_iconst sf_c2 (fun z1865 ez1865 => ?_)
                            refine sf_iadd (by omega) (fun v1866 ev1866 => ?_)
                            refine sf_sldk (x := x4) (k := 2) (by omega) (by omega) (by omega) ?_
                            clear ev1866 ez1865
                            refine sf_aload rfl ?_
                            refine sf_iload rfl ?_
                            refine sf_iconst sf_c3 (fun z1867 ez1867 => ?_)
                            refine sf_iadd (by omega) (fun v1868 ev1868 => ?_)
                            refine sf_sldk (x := x4) (k := 3) (by omega) (by omega) (by omega) ?_
                            clear ev1868 ez1867
                            refine sf_callv4 rfl (by omega) (by omega) ?_
                            refine sc_W_rule_0 I_w  (fun v1869 w1870 Iw1870 tw1870 lv1869 uv1869 q1871_0 => ?_)
                            have c1872 := sf_mf tw1870 (p := 1) (j := 0) rfl
                            have c1873 := sf_mf tw1870 (p := 71) (j := 1) rfl
                            have c1874 := sf_mf tw1870 (p := 1) (j := 5) rfl
                            have c1875 := sf_mf tw1870 (p := 71) (j := 5) rfl
                            have c1876 := sf_mf tw1870 (p := 13) (j := 1) rfl
                            have c1877 := sf_mf tw1870 (p := 71) (j := 10) rfl
                            have c1878 := sf_mf tw1870 (p := 21) (j := 1) rfl
                            have c1879 := sf_mf tw1870 (p := 71) (j := 18) rfl
                            have c1880 := sf_mf tw1870 (p := 35) (j := 0) rfl
                            have c1881 := sf_mf tw1870 (p := 71) (j := 35) rfl
                            have c1882 := sf_ma tw1870 (p := 3) rfl
                            have c1883 := sf_ma tw1870 (p := 72) rfl
                            have c1884 := sf_mg tw1870 (p := 10) rfl
                            have c1885 := sf_ma tw1870 (p := 93) rfl
                            have c1886 := sf_mL tw1870 (p := 130) rfl
                            have c1887 := sf_ma tw1870 (p := 2) rfl
                            have c1888 := sf_ma tw1870 (p := 6) rfl
                            have c1889 := sf_ma tw1870 (p := 75) rfl
                            have c1890 := sf_ma tw1870 (p := 7) rfl
                            have c1891 := sf_ma tw1870 (p := 76) rfl
                            have c1892 := sf_ma tw1870 (p := 8) rfl
                            have c1893 := sf_ma tw1870 (p := 77) rfl
                            have c1894 := sf_ma tw1870 (p := 9) rfl
                            have c1895 := sf_ma tw1870 (p := 78) rfl
                            have c1896 := sf_ma tw1870 (p := 14) rfl
                            have c1897 := sf_ma tw1870 (p := 79) rfl
                            have c1898 := sf_ma tw1870 (p := 15) rfl
                            have c1899 := sf_ma tw1870 (p := 80) rfl
                            have c1900 := sf_ma tw1870 (p := 16) rfl
                            have c1901 := sf_ma tw1870 (p := 81) rfl
                            have c1902 := sf_ma tw1870 (p := 17) rfl
                            have c1903 := sf_ma tw1870 (p := 82) rfl
                            have c1904 := sf_ma tw1870 (p := 18) rfl
                            have c1905 := sf_ma tw1870 (p := 83) rfl
                            have c1906 := sf_ma tw1870 (p := 19) rfl
                            have c1907 := sf_ma tw1870 (p := 84) rfl
                            have c1908 := sf_ma tw1870 (p := 20) rfl
                            have c1909 := sf_ma tw1870 (p := 85) rfl
                            have c1910 := sf_ma tw1870 (p := 24) rfl
                            have c1911 := sf_ma tw1870 (p := 86) rfl
                            have c1912 := sf_ma tw1870 (p := 25) rfl
                            have c1913 := sf_ma tw1870 (p := 87) rfl
                            have c1914 := sf_ma tw1870 (p := 23) rfl
                            have c1915 := sf_ma tw1870 (p := 88) rfl
                            have c1916 := sf_ma tw1870 (p := 26) rfl
                            have c1917 := sf_ma tw1870 (p := 89) rfl
                            have c1918 := sf_ma tw1870 (p := 27) rfl
                            have c1919 := sf_ma tw1870 (p := 90) rfl
                            have c1920 := sf_ma tw1870 (p := 36) rfl
                            have c1921 := sf_ma tw1870 (p := 102) rfl
                            have c1922 := sf_ma tw1870 (p := 37) rfl
                            have c1923 := sf_ma tw1870 (p := 103) rfl
                            have c1924 := sf_mf tw1870 (p := 60) (j := 0) rfl
                            have c1925 := sf_ma tw1870 (p := 61) rfl
                            have c1926 := sf_ma tw1870 (p := 62) rfl
                            have c1927 := sf_ma tw1870 (p := 63) rfl
                            have c1928 := sf_ma tw1870 (p := 65) rfl
                            have c1929 := sf_ma tw1870 (p := 66) rfl
                            have c1930 := sf_mf tw1870 (p := 71) (j := 56) rfl
                            have c1931 := sf_ma tw1870 (p := 121) rfl
                            have c1932 := sf_ma tw1870 (p := 122) rfl
                            have c1933 := sf_ma tw1870 (p := 123) rfl
                            have c1934 := sf_ma tw1870 (p := 125) rfl
                            have c1935 := sf_ma tw1870 (p := 126) rfl
                            have c1936 := sf_ma tw1870 (p := 38) rfl
                            have c1937 := sf_ma tw1870 (p := 40) rfl
                            have c1938 := sf_ma tw1870 (p := 41) rfl
                            have c1939 := sf_ma tw1870 (p := 42) rfl
                            have c1940 := sf_ma tw1870 (p := 43) rfl
                            have c1941 := sf_ma tw1870 (p := 44) rfl
                            have c1942 := sf_ma tw1870 (p := 47) rfl
                            have c1943 := sf_ma tw1870 (p := 104) rfl
                            have c1944 := sf_ma tw1870 (p := 106) rfl
                            have c1945 := sf_ma tw1870 (p := 113) rfl
                            have c1946 := sf_ma tw1870 (p := 107) rfl
                            have c1947 := sf_ma tw1870 (p := 108) rfl
                            have c1948 := sf_ma tw1870 (p := 110) rfl
                            have c1949 := sf_ma tw1870 (p := 109) rfl
                            have c1950 := sf_mf tw1870 (p := 71) (j := 41) rfl
                            have c1951 := sf_ma tw1870 (p := 68) rfl
                            have c1952 := sf_ma tw1870 (p := 69) rfl
                            have c1953 := sf_ma tw1870 (p := 70) rfl
                            have c1954 := sf_ma tw1870 (p := 127) rfl
                            have c1955 := sf_ma tw1870 (p := 128) rfl
                            have c1956 := sf_ma tw1870 (p := 129) rfl
                            refine sf_istore (L' := [(0, .inl (.ref 100000)), (1, .inl (.ref 0)), (2, .inl (.ref 71)), (3, .inl (.ref 130)), (4, .inl (.int x4))]) rfl ?_
                            refine sf_aload rfl ?_
                            refine sf_aload rfl ?_
                            refine sf_iload rfl ?_
                            refine sf_iconst sf_c1 (fun z1957 ez1957 => ?_)
                            refine sf_iadd (by omega) (fun v1958 ev1958 => ?_)
                            refine sf_sldk (x := x4) (k := 1) (by omega) (by omega) (by omega) ?_
                            clear ev1958 ez1957
                            refine sf_aload rfl ?_
                            refine sf_iload rfl ?_
                            refine sf_iconst sf_c2 (fun z1959 ez1959 => ?_)
                            refine sf_iadd (by omega) (fun v1960 ev1960 => ?_)
                            refine sf_sldk (x := x4) (k := 2) (by omega) (by omega) (by omega) ?_
                            clear ev1960 ez1959
                            refine sf_aload rfl ?_
                            refine sf_iload rfl ?_
                            refine sf_iconst sf_c3 (fun z1961 ez1961 => ?_)
                            refine sf_iadd (by omega) (fun v1962 ev1962 => ?_)
                            refine sf_sldk (x := x4) (k := 3) (by omega) (by omega) (by omega) ?_
                            clear ev1962 ez1961
                            refine sf_callv4 rfl (by omega) (by omega) ?_
                            refine sf_rv Iw1870 rfl ?_
                            refine sc_M_rule Iw1870  (fun w1963 Iw1963 tw1963 q1964_0 => ?_)
                            rw [c1873] at q1964_0
                            have c1965 := sf_mf tw1963 (p := 1) (j := 0) rfl
                            have c1966 := sf_mf tw1963 (p := 71) (j := 1) rfl
                            have c1967 := sf_mf tw1963 (p := 1) (j := 5) rfl
                            have c1968 := sf_mf tw1963 (p := 71) (j := 5) rfl
                            have c1969 := sf_mf tw1963 (p := 13) (j := 1) rfl
                            have c1970 := sf_mf tw1963 (p := 71) (j := 10) rfl
                            have c1971 := sf_mf tw1963 (p := 21) (j := 1) rfl
                            have c1972 := sf_mf tw1963 (p := 71) (j := 18) rfl
                            have c1973 := sf_mf tw1963 (p := 35) (j := 0) rfl
                            have c1974 := sf_mf tw1963 (p := 71) (j := 35) rfl
                            have c1975 := sf_ma tw1963 (p := 3) rfl
                            have c1976 := sf_ma tw1963 (p := 72) rfl
                            have c1977 := sf_mg tw1963 (p := 10) rfl
                            have c1978 := sf_ma tw1963 (p := 93) rfl
                            have c1979 := sf_mL tw1963 (p := 130) rfl
                            have c1980 := sf_ma tw1963 (p := 2) rfl
                            have c1981 := sf_ma tw1963 (p := 6) rfl
                            have c1982 := sf_ma tw1963 (p := 75) rfl
                            have c1983 := sf_ma tw1963 (p := 7) rfl
                            have c1984 := sf_ma tw1963 (p := 76) rfl
                            have c1985 := sf_ma tw1963 (p := 8) rfl
                            have c1986 := sf_ma tw1963 (p := 77) rfl
                            have c1987 := sf_ma tw1963 (p := 9) rfl
                            have c1988 := sf_ma tw1963 (p := 78) rfl
                            have c1989 := sf_ma tw1963 (p := 14) rfl
                            have c1990 := sf_ma tw1963 (p := 79) rfl
                            have c1991 := sf_ma tw1963 (p := 15) rfl
                            have c1992 := sf_ma tw1963 (p := 80) rfl
                            have c1993 := sf_ma tw1963 (p := 16) rfl
                            have c1994 := sf_ma tw1963 (p := 81) rfl
                            have c1995 := sf_ma tw1963 (p := 17) rfl
                            have c1996 := sf_ma tw1963 (p := 82) rfl
                            have c1997 := sf_ma tw1963 (p := 18) rfl
                            have c1998 := sf_ma tw1963 (p := 83) rfl
                            have c1999 := sf_ma tw1963 (p := 19) rfl
                            have c2000 := sf_ma tw1963 (p := 84) rfl
                            have c2001 := sf_ma tw1963 (p := 20) rfl
                            have c2002 := sf_ma tw1963 (p := 85) rfl
                            have c2003 := sf_ma tw1963 (p := 24) rfl
                            have c2004 := sf_ma tw1963 (p := 86) rfl
                            have c2005 := sf_ma tw1963 (p := 25) rfl
                            have c2006 := sf_ma tw1963 (p := 87) rfl
                            have c2007 := sf_ma tw1963 (p := 23) rfl
                            have c2008 := sf_ma tw1963 (p := 88) rfl
                            have c2009 := sf_ma tw1963 (p := 26) rfl
                            have c2010 := sf_ma tw1963 (p := 89) rfl
                            have c2011 := sf_ma tw1963 (p := 27) rfl
                            have c2012 := sf_ma tw1963 (p := 90) rfl
                            have c2013 := sf_ma tw1963 (p := 36) rfl
                            have c2014 := sf_ma tw1963 (p := 102) rfl
                            have c2015 := sf_ma tw1963 (p := 37) rfl
                            have c2016 := sf_ma tw1963 (p := 103) rfl
                            have c2017 := sf_mf tw1963 (p := 60) (j := 0) rfl
                            have c2018 := sf_ma tw1963 (p := 61) rfl
                            have c2019 := sf_ma tw1963 (p := 62) rfl
                            have c2020 := sf_ma tw1963 (p := 63) rfl
                            have c2021 := sf_ma tw1963 (p := 65) rfl
                            have c2022 := sf_ma tw1963 (p := 66) rfl
                            have c2023 := sf_mf tw1963 (p := 71) (j := 56) rfl
                            have c2024 := sf_ma tw1963 (p := 121) rfl
                            have c2025 := sf_ma tw1963 (p := 122) rfl
                            have c2026 := sf_ma tw1963 (p := 123) rfl
                            have c2027 := sf_ma tw1963 (p := 125) rfl
                            have c2028 := sf_ma tw1963 (p := 126) rfl
                            have c2029 := sf_ma tw1963 (p := 38) rfl
                            have c2030 := sf_ma tw1963 (p := 40) rfl
                            have c2031 := sf_ma tw1963 (p := 41) rfl
                            have c2032 := sf_ma tw1963 (p := 42) rfl
                            have c2033 := sf_ma tw1963 (p := 43) rfl
                            have c2034 := sf_ma tw1963 (p := 44) rfl
                            have c2035 := sf_ma tw1963 (p := 47) rfl
                            have c2036 := sf_ma tw1963 (p := 104) rfl
                            have c2037 := sf_ma tw1963 (p := 106) rfl
                            have c2038 := sf_ma tw1963 (p := 113) rfl
                            have c2039 := sf_ma tw1963 (p := 107) rfl
                            have c2040 := sf_ma tw1963 (p := 108) rfl
                            have c2041 := sf_ma tw1963 (p := 110) rfl
                            have c2042 := sf_ma tw1963 (p := 109) rfl
                            have c2043 := sf_mf tw1963 (p := 71) (j := 41) rfl
                            have c2044 := sf_ma tw1963 (p := 68) rfl
                            have c2045 := sf_ma tw1963 (p := 69) rfl
                            have c2046 := sf_ma tw1963 (p := 70) rfl
                            have c2047 := sf_ma tw1963 (p := 127) rfl
                            have c2048 := sf_ma tw1963 (p := 128) rfl
                            have c2049 := sf_ma tw1963 (p := 129) rfl
                            show kt_W_law_1404 N xs K _ _ _ _ _
                            refine sf_iinc (L' := [(5, .inl (.int v1869)), (0, .inl (.ref 100000)), (1, .inl (.ref 0)), (2, .inl (.ref 71)), (3, .inl (.ref 130))]) (x := x4) sf_c8 rfl rfl (by omega) (fun v2050 ev2050 => ?_)
                            refine sf_can (L' := [(0, .inl (.ref 100000)), (1, .inl (.ref 0)), (2, .inl (.ref 71)), (3, .inl (.ref 130)), (4, .inl (.int v2050))]) rfl ?_
                            exact ih _ _ _ _ Iw1963 (by omega) (by omega) (by omega) (by omega) (by rw [c1965, c1872]; rw [c1966, c1873]; rw [c1967, c1874]; rw [c1968, c1875]; rw [c1969, c1876]; rw [c1970, c1877]; rw [c1971, c1878]; rw [c1972, c1879]; rw [c1973, c1880]; rw [c1974, c1881]; omega) (by rw [c1975, c1882]; rw [c1976, c1883]; rw [c1966, c1873]; first | exact f_1 | exact hJ) (by rw [c1977, c1884]; rw [c1978, c1885]; first | exact f_2 | exact hK2) (by rw [c1980, c1887]; rw [c1976, c1883]; rw [c1966, c1873]; first | exact f_3 | exact hQ2) (by rw [c1981, c1888]; rw [c1982, c1889]; rw [c1968, c1875]; first | exact f_4 | exact hQ6) (by rw [c1983, c1890]; rw [c1984, c1891]; rw [c1968, c1875]; first | exact f_5 | exact hQ7) (by rw [c1985, c1892]; rw [c1986, c1893]; rw [c1968, c1875]; first | exact f_6 | exact hQ8) (by rw [c1987, c1894]; rw [c1988, c1895]; rw [c1968, c1875]; first | exact f_7 | exact hQ9) (by rw [c1989, c1896]; rw [c1990, c1897]; rw [c1970, c1877]; first | exact f_8 | exact hQ14) (by rw [c1991, c1898]; rw [c1992, c1899]; rw [c1970, c1877]; first | exact f_9 | exact hQ15) (by rw [c1993, c1900]; rw [c1994, c1901]; rw [c1970, c1877]; first | exact f_10 | exact hQ16) (by rw [c1995, c1902]; rw [c1996, c1903]; rw [c1970, c1877]; first | exact f_11 | exact hQ17) (by rw [c1997, c1904]; rw [c1998, c1905]; rw [c1970, c1877]; first | exact f_12 | exact hQ18) (by rw [c1999, c1906]; rw [c2000, c1907]; rw [c1970, c1877]; first | exact f_13 | exact hQ19) (by rw [c2001, c1908]; rw [c2002, c1909]; rw [c1970, c1877]; first | exact f_14 | exact hQ20) (by rw [c2003, c1910]; rw [c2004, c1911]; rw [c1972, c1879]; first | exact f_15 | exact hQ24) (by rw [c2005, c1912]; rw [c2006, c1913]; rw [c1972, c1879]; first | exact f_16 | exact hQ25) (by rw [c2007, c1914]; rw [c2008, c1915]; rw [c1972, c1879]; first | exact f_17 | exact hQ23) (by rw [c2009, c1916]; rw [c2010, c1917]; rw [c1972, c1879]; first | exact f_18 | exact hQ26) (by rw [c2011, c1918]; rw [c2012, c1919]; rw [c1972, c1879]; first | exact f_19 | exact hQ27) (by rw [c2013, c1920]; rw [c2014, c1921]; rw [c1974, c1881]; first | exact f_20 | exact hQ36) (by rw [c2015, c1922]; rw [c2016, c1923]; rw [c1974, c1881]; first | exact f_21 | exact hQ37) (by rw [c2017, c1924]; rw [c2023, c1930]; rw [c2018, c1925]; rw [c2019, c1926]; rw [c2020, c1927]; rw [c2021, c1928]; rw [c2022, c1929]; rw [c2024, c1931]; rw [c2025, c1932]; rw [c2026, c1933]; rw [c2027, c1934]; rw [c2028, c1935]; exact f_22) (by rw [c2029, c1936]; rw [c2036, c1943]; rw [c2030, c1937]; rw [c2037, c1944]; rw [c2032, c1939]; rw [c2039, c1946]; rw [c2033, c1940]; rw [c2040, c1947]; rw [c2035, c1942]; rw [c2042, c1949]; rw [c2034, c1941]; rw [c2041, c1948]; exact f_23) (by rw [c2030, c1937]; rw [c2029, c1936]; rw [c2031, c1938]; rw [c2038, c1945]; exact f_24) (by rw [c2014, c1921]; rw [c2016, c1923]; rw [c2037, c1944]; rw [c1974, c1881]; rw [c2043, c1950]; exact f_25) (by rw [c2037, c1944]; rw [c1974, c1881]; exact f_26) (by rw [c2044, c1951]; rw [c2047, c1954]; rw [c2045, c1952]; rw [c2048, c1955]; rw [c2046, c1953]; rw [c2049, c1956]; exact f_27) (by omega)
                          · clear h1862
                            refine sf_sw1 sf_c11 (fun h2051 => ?_) (fun h2051 => ?_)
                            · refine sf_aload rfl ?_
                              refine sf_aload rfl ?_
                              refine sf_iload rfl ?_
                              refine sf_iconst sf_c1 (fun z2052 ez2052 => ?_)
                              refine sf_iadd (by omega) (fun v2053 ev2053 => ?_)
                              refine sf_sldk (x := x4) (k := 1) (by omega) (by omega) (by omega) ?_
                              clear ev2053 ez2052
                              refine sf_aload rfl ?_
                              refine sf_iload rfl ?_
                              refine sf_iconst sf_c2 (fun z2054 ez2054 => ?_)
                              refine sf_iadd (by omega) (fun v2055 ev2055 => ?_)
                              refine sf_sldk (x := x4) (k := 2) (by omega) (by omega) (by omega) ?_
                              clear ev2055 ez2054
                              refine sf_aload rfl ?_
                              refine sf_callv4 rfl (by omega) (by omega) ?_
                              refine sc_W_madeIn_0_130 I_w  (fun v2056 w2057 Iw2057 tw2057 lv2056 uv2056 => ?_)
                              have c2059 := sf_mf tw2057 (p := 1) (j := 0) rfl
                              have c2060 := sf_mf tw2057 (p := 71) (j := 1) rfl
                              have c2061 := sf_mf tw2057 (p := 1) (j := 5) rfl
                              have c2062 := sf_mf tw2057 (p := 71) (j := 5) rfl
                              have c2063 := sf_mf tw2057 (p := 13) (j := 1) rfl
                              have c2064 := sf_mf tw2057 (p := 71) (j := 10) rfl
                              have c2065 := sf_mf tw2057 (p := 21) (j := 1) rfl
                              have c2066 := sf_mf tw2057 (p := 71) (j := 18) rfl
                              have c2067 := sf_mf tw2057 (p := 35) (j := 0) rfl
                              have c2068 := sf_mf tw2057 (p := 71) (j := 35) rfl
                              have c2069 := sf_ma tw2057 (p := 3) rfl
                              have c2070 := sf_ma tw2057 (p := 72) rfl
                              have c2071 := sf_mg tw2057 (p := 10) rfl
                              have c2072 := sf_ma tw2057 (p := 93) rfl
                              have c2073 := sf_ma tw2057 (p := 2) rfl
                              have c2074 := sf_ma tw2057 (p := 6) rfl
                              have c2075 := sf_ma tw2057 (p := 75) rfl
                              have c2076 := sf_ma tw2057 (p := 7) rfl
                              have c2077 := sf_ma tw2057 (p := 76) rfl
                              have c2078 := sf_ma tw2057 (p := 8) rfl
                              have c2079 := sf_ma tw2057 (p := 77) rfl
                              have c2080 := sf_ma tw2057 (p := 9) rfl
                              have c2081 := sf_ma tw2057 (p := 78) rfl
                              have c2082 := sf_ma tw2057 (p := 14) rfl
                              have c2083 := sf_ma tw2057 (p := 79) rfl
                              have c2084 := sf_ma tw2057 (p := 15) rfl
                              have c2085 := sf_ma tw2057 (p := 80) rfl
                              have c2086 := sf_ma tw2057 (p := 16) rfl
                              have c2087 := sf_ma tw2057 (p := 81) rfl
                              have c2088 := sf_ma tw2057 (p := 17) rfl
                              have c2089 := sf_ma tw2057 (p := 82) rfl
                              have c2090 := sf_ma tw2057 (p := 18) rfl
                              have c2091 := sf_ma tw2057 (p := 83) rfl
                              have c2092 := sf_ma tw2057 (p := 19) rfl
                              have c2093 := sf_ma tw2057 (p := 84) rfl
                              have c2094 := sf_ma tw2057 (p := 20) rfl
                              have c2095 := sf_ma tw2057 (p := 85) rfl
                              have c2096 := sf_ma tw2057 (p := 24) rfl
                              have c2097 := sf_ma tw2057 (p := 86) rfl
                              have c2098 := sf_ma tw2057 (p := 25) rfl
                              have c2099 := sf_ma tw2057 (p := 87) rfl
                              have c2100 := sf_ma tw2057 (p := 23) rfl
                              have c2101 := sf_ma tw2057 (p := 88) rfl
                              have c2102 := sf_ma tw2057 (p := 26) rfl
                              have c2103 := sf_ma tw2057 (p := 89) rfl
                              have c2104 := sf_ma tw2057 (p := 27) rfl
                              have c2105 := sf_ma tw2057 (p := 90) rfl
                              have c2106 := sf_ma tw2057 (p := 36) rfl
                              have c2107 := sf_ma tw2057 (p := 102) rfl
                              have c2108 := sf_ma tw2057 (p := 37) rfl
                              have c2109 := sf_ma tw2057 (p := 103) rfl
                              have c2110 := sf_mf tw2057 (p := 60) (j := 0) rfl
                              have c2111 := sf_ma tw2057 (p := 61) rfl
                              have c2112 := sf_ma tw2057 (p := 62) rfl
                              have c2113 := sf_ma tw2057 (p := 63) rfl
                              have c2114 := sf_ma tw2057 (p := 65) rfl
                              have c2115 := sf_ma tw2057 (p := 66) rfl
                              have c2116 := sf_mf tw2057 (p := 71) (j := 56) rfl
                              have c2117 := sf_ma tw2057 (p := 121) rfl
                              have c2118 := sf_ma tw2057 (p := 122) rfl
                              have c2119 := sf_ma tw2057 (p := 123) rfl
                              have c2120 := sf_ma tw2057 (p := 125) rfl
                              have c2121 := sf_ma tw2057 (p := 126) rfl
                              have c2122 := sf_ma tw2057 (p := 38) rfl
                              have c2123 := sf_ma tw2057 (p := 40) rfl
                              have c2124 := sf_ma tw2057 (p := 41) rfl
                              have c2125 := sf_ma tw2057 (p := 42) rfl
                              have c2126 := sf_ma tw2057 (p := 43) rfl
                              have c2127 := sf_ma tw2057 (p := 44) rfl
                              have c2128 := sf_ma tw2057 (p := 47) rfl
                              have c2129 := sf_ma tw2057 (p := 104) rfl
                              have c2130 := sf_ma tw2057 (p := 106) rfl
                              have c2131 := sf_ma tw2057 (p := 113) rfl
                              have c2132 := sf_ma tw2057 (p := 107) rfl
                              have c2133 := sf_ma tw2057 (p := 108) rfl
                              have c2134 := sf_ma tw2057 (p := 110) rfl
                              have c2135 := sf_ma tw2057 (p := 109) rfl
                              have c2136 := sf_mf tw2057 (p := 71) (j := 41) rfl
                              have c2137 := sf_ma tw2057 (p := 68) rfl
                              have c2138 := sf_ma tw2057 (p := 69) rfl
                              have c2139 := sf_ma tw2057 (p := 70) rfl
                              have c2140 := sf_ma tw2057 (p := 127) rfl
                              have c2141 := sf_ma tw2057 (p := 128) rfl
                              have c2142 := sf_ma tw2057 (p := 129) rfl
                              refine sf_istore (L' := [(0, .inl (.ref 100000)), (1, .inl (.ref 0)), (2, .inl (.ref 71)), (3, .inl (.ref 130)), (4, .inl (.int x4))]) rfl ?_
                              refine sf_aload rfl ?_
                              refine sf_aload rfl ?_
                              refine sf_iload rfl ?_
                              refine sf_iconst sf_c1 (fun z2143 ez2143 => ?_)
                              refine sf_iadd (by omega) (fun v2144 ev2144 => ?_)
                              refine sf_sldk (x := x4) (k := 1) (by omega) (by omega) (by omega) ?_
                              clear ev2144 ez2143
                              refine sf_aload rfl ?_
                              refine sf_iload rfl ?_
                              refine sf_iconst sf_c2 (fun z2145 ez2145 => ?_)
                              refine sf_iadd (by omega) (fun v2146 ev2146 => ?_)
                              refine sf_sldk (x := x4) (k := 2) (by omega) (by omega) (by omega) ?_
                              clear ev2146 ez2145
                              refine sf_callv3 rfl (by omega) (by omega) ?_
                              refine sf_rv Iw2057 rfl ?_
                              refine sc_M_madeIn Iw2057  (fun v2147 w2148 Iw2148 tw2148 lv2147 uv2147 => ?_)
                              have c2150 := sf_mf tw2148 (p := 1) (j := 0) rfl
                              have c2151 := sf_mf tw2148 (p := 71) (j := 1) rfl
                              have c2152 := sf_mf tw2148 (p := 1) (j := 5) rfl
                              have c2153 := sf_mf tw2148 (p := 71) (j := 5) rfl
                              have c2154 := sf_mf tw2148 (p := 13) (j := 1) rfl
                              have c2155 := sf_mf tw2148 (p := 71) (j := 10) rfl
                              have c2156 := sf_mf tw2148 (p := 21) (j := 1) rfl
                              have c2157 := sf_mf tw2148 (p := 71) (j := 18) rfl
                              have c2158 := sf_mf tw2148 (p := 35) (j := 0) rfl
                              have c2159 := sf_mf tw2148 (p := 71) (j := 35) rfl
                              have c2160 := sf_ma tw2148 (p := 3) rfl
                              have c2161 := sf_ma tw2148 (p := 72) rfl
                              have c2162 := sf_mg tw2148 (p := 10) rfl
                              have c2163 := sf_ma tw2148 (p := 93) rfl
                              have c2164 := sf_mL tw2148 (p := 130) rfl
                              have c2165 := sf_ma tw2148 (p := 2) rfl
                              have c2166 := sf_ma tw2148 (p := 6) rfl
                              have c2167 := sf_ma tw2148 (p := 75) rfl
                              have c2168 := sf_ma tw2148 (p := 7) rfl
                              have c2169 := sf_ma tw2148 (p := 76) rfl
                              have c2170 := sf_ma tw2148 (p := 8) rfl
                              have c2171 := sf_ma tw2148 (p := 77) rfl
                              have c2172 := sf_ma tw2148 (p := 9) rfl
                              have c2173 := sf_ma tw2148 (p := 78) rfl
                              have c2174 := sf_ma tw2148 (p := 14) rfl
                              have c2175 := sf_ma tw2148 (p := 79) rfl
                              have c2176 := sf_ma tw2148 (p := 15) rfl
                              have c2177 := sf_ma tw2148 (p := 80) rfl
                              have c2178 := sf_ma tw2148 (p := 16) rfl
                              have c2179 := sf_ma tw2148 (p := 81) rfl
                              have c2180 := sf_ma tw2148 (p := 17) rfl
                              have c2181 := sf_ma tw2148 (p := 82) rfl
                              have c2182 := sf_ma tw2148 (p := 18) rfl
                              have c2183 := sf_ma tw2148 (p := 83) rfl
                              have c2184 := sf_ma tw2148 (p := 19) rfl
                              have c2185 := sf_ma tw2148 (p := 84) rfl
                              have c2186 := sf_ma tw2148 (p := 20) rfl
                              have c2187 := sf_ma tw2148 (p := 85) rfl
                              have c2188 := sf_ma tw2148 (p := 24) rfl
                              have c2189 := sf_ma tw2148 (p := 86) rfl
                              have c2190 := sf_ma tw2148 (p := 25) rfl
                              have c2191 := sf_ma tw2148 (p := 87) rfl
                              have c2192 := sf_ma tw2148 (p := 23) rfl
                              have c2193 := sf_ma tw2148 (p := 88) rfl
                              have c2194 := sf_ma tw2148 (p := 26) rfl
                              have c2195 := sf_ma tw2148 (p := 89) rfl
                              have c2196 := sf_ma tw2148 (p := 27) rfl
                              have c2197 := sf_ma tw2148 (p := 90) rfl
                              have c2198 := sf_ma tw2148 (p := 36) rfl
                              have c2199 := sf_ma tw2148 (p := 102) rfl
                              have c2200 := sf_ma tw2148 (p := 37) rfl
                              have c2201 := sf_ma tw2148 (p := 103) rfl
                              have c2202 := sf_mf tw2148 (p := 60) (j := 0) rfl
                              have c2203 := sf_ma tw2148 (p := 61) rfl
                              have c2204 := sf_ma tw2148 (p := 62) rfl
                              have c2205 := sf_ma tw2148 (p := 63) rfl
                              have c2206 := sf_ma tw2148 (p := 65) rfl
                              have c2207 := sf_ma tw2148 (p := 66) rfl
                              have c2208 := sf_mf tw2148 (p := 71) (j := 56) rfl
                              have c2209 := sf_ma tw2148 (p := 121) rfl
                              have c2210 := sf_ma tw2148 (p := 122) rfl
                              have c2211 := sf_ma tw2148 (p := 123) rfl
                              have c2212 := sf_ma tw2148 (p := 125) rfl
                              have c2213 := sf_ma tw2148 (p := 126) rfl
                              have c2214 := sf_ma tw2148 (p := 38) rfl
                              have c2215 := sf_ma tw2148 (p := 40) rfl
                              have c2216 := sf_ma tw2148 (p := 41) rfl
                              have c2217 := sf_ma tw2148 (p := 42) rfl
                              have c2218 := sf_ma tw2148 (p := 43) rfl
                              have c2219 := sf_ma tw2148 (p := 44) rfl
                              have c2220 := sf_ma tw2148 (p := 47) rfl
                              have c2221 := sf_ma tw2148 (p := 104) rfl
                              have c2222 := sf_ma tw2148 (p := 106) rfl
                              have c2223 := sf_ma tw2148 (p := 113) rfl
                              have c2224 := sf_ma tw2148 (p := 107) rfl
                              have c2225 := sf_ma tw2148 (p := 108) rfl
                              have c2226 := sf_ma tw2148 (p := 110) rfl
                              have c2227 := sf_ma tw2148 (p := 109) rfl
                              have c2228 := sf_mf tw2148 (p := 71) (j := 41) rfl
                              have c2229 := sf_ma tw2148 (p := 68) rfl
                              have c2230 := sf_ma tw2148 (p := 69) rfl
                              have c2231 := sf_ma tw2148 (p := 70) rfl
                              have c2232 := sf_ma tw2148 (p := 127) rfl
                              have c2233 := sf_ma tw2148 (p := 128) rfl
                              have c2234 := sf_ma tw2148 (p := 129) rfl
                              refine sf_istore (L' := [(5, .inl (.int v2056)), (0, .inl (.ref 100000)), (1, .inl (.ref 0)), (2, .inl (.ref 71)), (3, .inl (.ref 130)), (4, .inl (.int x4))]) rfl ?_
                              show kt_W_law_1404 N xs K _ _ _ _ _
                              refine sf_iinc (L' := [(6, .inl (.int v2147)), (5, .inl (.int v2056)), (0, .inl (.ref 100000)), (1, .inl (.ref 0)), (2, .inl (.ref 71)), (3, .inl (.ref 130))]) (x := x4) sf_c8 rfl rfl (by omega) (fun v2235 ev2235 => ?_)
                              refine sf_can (L' := [(0, .inl (.ref 100000)), (1, .inl (.ref 0)), (2, .inl (.ref 71)), (3, .inl (.ref 130)), (4, .inl (.int v2235))]) rfl ?_
                              exact ih _ _ _ _ Iw2148 (by omega) (by omega) (by omega) (by omega) (by rw [c2150, c2059]; rw [c2151, c2060]; rw [c2152, c2061]; rw [c2153, c2062]; rw [c2154, c2063]; rw [c2155, c2064]; rw [c2156, c2065]; rw [c2157, c2066]; rw [c2158, c2067]; rw [c2159, c2068]; omega) (by rw [c2160, c2069]; rw [c2161, c2070]; rw [c2151, c2060]; first | exact f_1 | exact hJ) (by rw [c2162, c2071]; rw [c2163, c2072]; first | exact f_2 | exact hK2) (by rw [c2165, c2073]; rw [c2161, c2070]; rw [c2151, c2060]; first | exact f_3 | exact hQ2) (by rw [c2166, c2074]; rw [c2167, c2075]; rw [c2153, c2062]; first | exact f_4 | exact hQ6) (by rw [c2168, c2076]; rw [c2169, c2077]; rw [c2153, c2062]; first | exact f_5 | exact hQ7) (by rw [c2170, c2078]; rw [c2171, c2079]; rw [c2153, c2062]; first | exact f_6 | exact hQ8) (by rw [c2172, c2080]; rw [c2173, c2081]; rw [c2153, c2062]; first | exact f_7 | exact hQ9) (by rw [c2174, c2082]; rw [c2175, c2083]; rw [c2155, c2064]; first | exact f_8 | exact hQ14) (by rw [c2176, c2084]; rw [c2177, c2085]; rw [c2155, c2064]; first | exact f_9 | exact hQ15) (by rw [c2178, c2086]; rw [c2179, c2087]; rw [c2155, c2064]; first | exact f_10 | exact hQ16) (by rw [c2180, c2088]; rw [c2181, c2089]; rw [c2155, c2064]; first | exact f_11 | exact hQ17) (by rw [c2182, c2090]; rw [c2183, c2091]; rw [c2155, c2064]; first | exact f_12 | exact hQ18) (by rw [c2184, c2092]; rw [c2185, c2093]; rw [c2155, c2064]; first | exact f_13 | exact hQ19) (by rw [c2186, c2094]; rw [c2187, c2095]; rw [c2155, c2064]; first | exact f_14 | exact hQ20) (by rw [c2188, c2096]; rw [c2189, c2097]; rw [c2157, c2066]; first | exact f_15 | exact hQ24) (by rw [c2190, c2098]; rw [c2191, c2099]; rw [c2157, c2066]; first | exact f_16 | exact hQ25) (by rw [c2192, c2100]; rw [c2193, c2101]; rw [c2157, c2066]; first | exact f_17 | exact hQ23) (by rw [c2194, c2102]; rw [c2195, c2103]; rw [c2157, c2066]; first | exact f_18 | exact hQ26) (by rw [c2196, c2104]; rw [c2197, c2105]; rw [c2157, c2066]; first | exact f_19 | exact hQ27) (by rw [c2198, c2106]; rw [c2199, c2107]; rw [c2159, c2068]; first | exact f_20 | exact hQ36) (by rw [c2200, c2108]; rw [c2201, c2109]; rw [c2159, c2068]; first | exact f_21 | exact hQ37) (by rw [c2202, c2110]; rw [c2208, c2116]; rw [c2203, c2111]; rw [c2204, c2112]; rw [c2205, c2113]; rw [c2206, c2114]; rw [c2207, c2115]; rw [c2209, c2117]; rw [c2210, c2118]; rw [c2211, c2119]; rw [c2212, c2120]; rw [c2213, c2121]; exact f_22) (by rw [c2214, c2122]; rw [c2221, c2129]; rw [c2215, c2123]; rw [c2222, c2130]; rw [c2217, c2125]; rw [c2224, c2132]; rw [c2218, c2126]; rw [c2225, c2133]; rw [c2220, c2128]; rw [c2227, c2135]; rw [c2219, c2127]; rw [c2226, c2134]; exact f_23) (by rw [c2215, c2123]; rw [c2214, c2122]; rw [c2216, c2124]; rw [c2223, c2131]; exact f_24) (by rw [c2199, c2107]; rw [c2201, c2109]; rw [c2222, c2130]; rw [c2159, c2068]; rw [c2228, c2136]; exact f_25) (by rw [c2222, c2130]; rw [c2159, c2068]; exact f_26) (by rw [c2229, c2137]; rw [c2232, c2140]; rw [c2230, c2138]; rw [c2233, c2141]; rw [c2231, c2139]; rw [c2234, c2142]; exact f_27) (by omega)
                            · clear h2051
                              refine sf_sw1 sf_c12 (fun h2236 => ?_) (fun h2236 => ?_)
                              · refine sf_aload rfl ?_
                                refine sf_aload rfl ?_
                                refine sf_iload rfl ?_
                                refine sf_iconst sf_c1 (fun z2237 ez2237 => ?_)
                                refine sf_iadd (by omega) (fun v2238 ev2238 => ?_)
                                refine sf_sldk (x := x4) (k := 1) (by omega) (by omega) (by omega) ?_
                                clear ev2238 ez2237
                                refine sf_aload rfl ?_
                                refine sf_iload rfl ?_
                                refine sf_iconst sf_c2 (fun z2239 ez2239 => ?_)
                                refine sf_iadd (by omega) (fun v2240 ev2240 => ?_)
                                refine sf_sldk (x := x4) (k := 2) (by omega) (by omega) (by omega) ?_
                                clear ev2240 ez2239
                                refine sf_aload rfl ?_
                                refine sf_callv4 rfl (by omega) (by omega) ?_
                                refine sc_W_declare_0_130 I_w  (fun v2241 w2242 Iw2242 tw2242 lv2241 uv2241 q2243_0 q2243_1 q2243_2 => ?_)
                                have c2244 := sf_mf tw2242 (p := 1) (j := 0) rfl
                                have c2245 := sf_mf tw2242 (p := 71) (j := 1) rfl
                                have c2246 := sf_mf tw2242 (p := 1) (j := 5) rfl
                                have c2247 := sf_mf tw2242 (p := 71) (j := 5) rfl
                                have c2248 := sf_mf tw2242 (p := 13) (j := 1) rfl
                                have c2249 := sf_mf tw2242 (p := 71) (j := 10) rfl
                                have c2250 := sf_mf tw2242 (p := 21) (j := 1) rfl
                                have c2251 := sf_mf tw2242 (p := 71) (j := 18) rfl
                                have c2252 := sf_mf tw2242 (p := 71) (j := 35) rfl
                                have c2253 := sf_ma tw2242 (p := 3) rfl
                                have c2254 := sf_ma tw2242 (p := 72) rfl
                                have c2255 := sf_mg tw2242 (p := 10) rfl
                                have c2256 := sf_ma tw2242 (p := 93) rfl
                                have c2257 := sf_ma tw2242 (p := 2) rfl
                                have c2258 := sf_ma tw2242 (p := 6) rfl
                                have c2259 := sf_ma tw2242 (p := 75) rfl
                                have c2260 := sf_ma tw2242 (p := 7) rfl
                                have c2261 := sf_ma tw2242 (p := 76) rfl
                                have c2262 := sf_ma tw2242 (p := 8) rfl
                                have c2263 := sf_ma tw2242 (p := 77) rfl
                                have c2264 := sf_ma tw2242 (p := 9) rfl
                                have c2265 := sf_ma tw2242 (p := 78) rfl
                                have c2266 := sf_ma tw2242 (p := 14) rfl
                                have c2267 := sf_ma tw2242 (p := 79) rfl
                                have c2268 := sf_ma tw2242 (p := 15) rfl
                                have c2269 := sf_ma tw2242 (p := 80) rfl
                                have c2270 := sf_ma tw2242 (p := 16) rfl
                                have c2271 := sf_ma tw2242 (p := 81) rfl
                                have c2272 := sf_ma tw2242 (p := 17) rfl
                                have c2273 := sf_ma tw2242 (p := 82) rfl
                                have c2274 := sf_ma tw2242 (p := 18) rfl
                                have c2275 := sf_ma tw2242 (p := 83) rfl
                                have c2276 := sf_ma tw2242 (p := 19) rfl
                                have c2277 := sf_ma tw2242 (p := 84) rfl
                                have c2278 := sf_ma tw2242 (p := 20) rfl
                                have c2279 := sf_ma tw2242 (p := 85) rfl
                                have c2280 := sf_ma tw2242 (p := 24) rfl
                                have c2281 := sf_ma tw2242 (p := 86) rfl
                                have c2282 := sf_ma tw2242 (p := 25) rfl
                                have c2283 := sf_ma tw2242 (p := 87) rfl
                                have c2284 := sf_ma tw2242 (p := 23) rfl
                                have c2285 := sf_ma tw2242 (p := 88) rfl
                                have c2286 := sf_ma tw2242 (p := 26) rfl
                                have c2287 := sf_ma tw2242 (p := 89) rfl
                                have c2288 := sf_ma tw2242 (p := 27) rfl
                                have c2289 := sf_ma tw2242 (p := 90) rfl
                                have c2290 := sf_ma tw2242 (p := 102) rfl
                                have c2291 := sf_ma tw2242 (p := 103) rfl
                                have c2292 := sf_mf tw2242 (p := 60) (j := 0) rfl
                                have c2293 := sf_ma tw2242 (p := 61) rfl
                                have c2294 := sf_ma tw2242 (p := 62) rfl
                                have c2295 := sf_ma tw2242 (p := 63) rfl
                                have c2296 := sf_ma tw2242 (p := 65) rfl
                                have c2297 := sf_ma tw2242 (p := 66) rfl
                                have c2298 := sf_mf tw2242 (p := 71) (j := 56) rfl
                                have c2299 := sf_ma tw2242 (p := 121) rfl
                                have c2300 := sf_ma tw2242 (p := 122) rfl
                                have c2301 := sf_ma tw2242 (p := 123) rfl
                                have c2302 := sf_ma tw2242 (p := 125) rfl
                                have c2303 := sf_ma tw2242 (p := 126) rfl
                                have c2304 := sf_ma tw2242 (p := 38) rfl
                                have c2305 := sf_ma tw2242 (p := 40) rfl
                                have c2306 := sf_ma tw2242 (p := 41) rfl
                                have c2307 := sf_ma tw2242 (p := 42) rfl
                                have c2308 := sf_ma tw2242 (p := 43) rfl
                                have c2309 := sf_ma tw2242 (p := 44) rfl
                                have c2310 := sf_ma tw2242 (p := 47) rfl
                                have c2311 := sf_ma tw2242 (p := 104) rfl
                                have c2312 := sf_ma tw2242 (p := 106) rfl
                                have c2313 := sf_ma tw2242 (p := 113) rfl
                                have c2314 := sf_ma tw2242 (p := 107) rfl
                                have c2315 := sf_ma tw2242 (p := 108) rfl
                                have c2316 := sf_ma tw2242 (p := 110) rfl
                                have c2317 := sf_ma tw2242 (p := 109) rfl
                                have c2318 := sf_mf tw2242 (p := 71) (j := 41) rfl
                                have c2319 := sf_ma tw2242 (p := 68) rfl
                                have c2320 := sf_ma tw2242 (p := 69) rfl
                                have c2321 := sf_ma tw2242 (p := 70) rfl
                                have c2322 := sf_ma tw2242 (p := 127) rfl
                                have c2323 := sf_ma tw2242 (p := 128) rfl
                                have c2324 := sf_ma tw2242 (p := 129) rfl
                                have U36 := q2243_1
                                have U37 := q2243_2
                                clear q2243_1 q2243_2
                                have F1 := q2243_0
                                refine sf_istore (L' := [(0, .inl (.ref 100000)), (1, .inl (.ref 0)), (2, .inl (.ref 71)), (3, .inl (.ref 130)), (4, .inl (.int x4))]) rfl ?_
                                refine sf_aload rfl ?_
                                refine sf_aload rfl ?_
                                refine sf_iload rfl ?_
                                refine sf_iconst sf_c1 (fun z2325 ez2325 => ?_)
                                refine sf_iadd (by omega) (fun v2326 ev2326 => ?_)
                                refine sf_sldk (x := x4) (k := 1) (by omega) (by omega) (by omega) ?_
                                clear ev2326 ez2325
                                refine sf_aload rfl ?_
                                refine sf_iload rfl ?_
                                refine sf_iconst sf_c2 (fun z2327 ez2327 => ?_)
                                refine sf_iadd (by omega) (fun v2328 ev2328 => ?_)
                                refine sf_sldk (x := x4) (k := 2) (by omega) (by omega) (by omega) ?_
                                clear ev2328 ez2327
                                refine sf_callv3 rfl (by omega) (by omega) ?_
                                refine sf_rv Iw2242 rfl ?_
                                refine sc_M_declare Iw2242  (fun v2329 w2330 Iw2330 tw2330 lv2329 uv2329 q2331_0 q2331_1 q2331_2 => ?_)
                                rw [c2252] at q2331_0
                                rw [c2290] at q2331_1
                                rw [c2252] at q2331_1
                                rw [c2291] at q2331_2
                                rw [c2252] at q2331_2
                                have c2332 := sf_mf tw2330 (p := 1) (j := 0) rfl
                                have c2333 := sf_mf tw2330 (p := 71) (j := 1) rfl
                                have c2334 := sf_mf tw2330 (p := 1) (j := 5) rfl
                                have c2335 := sf_mf tw2330 (p := 71) (j := 5) rfl
                                have c2336 := sf_mf tw2330 (p := 13) (j := 1) rfl
                                have c2337 := sf_mf tw2330 (p := 71) (j := 10) rfl
                                have c2338 := sf_mf tw2330 (p := 21) (j := 1) rfl
                                have c2339 := sf_mf tw2330 (p := 71) (j := 18) rfl
                                have c2340 := sf_mf tw2330 (p := 35) (j := 0) rfl
                                have c2341 := sf_ma tw2330 (p := 3) rfl
                                have c2342 := sf_ma tw2330 (p := 72) rfl
                                have c2343 := sf_mg tw2330 (p := 10) rfl
                                have c2344 := sf_ma tw2330 (p := 93) rfl
                                have c2345 := sf_mL tw2330 (p := 130) rfl
                                have c2346 := sf_ma tw2330 (p := 2) rfl
                                have c2347 := sf_ma tw2330 (p := 6) rfl
                                have c2348 := sf_ma tw2330 (p := 75) rfl
                                have c2349 := sf_ma tw2330 (p := 7) rfl
                                have c2350 := sf_ma tw2330 (p := 76) rfl
                                have c2351 := sf_ma tw2330 (p := 8) rfl
                                have c2352 := sf_ma tw2330 (p := 77) rfl
                                have c2353 := sf_ma tw2330 (p := 9) rfl
                                have c2354 := sf_ma tw2330 (p := 78) rfl
                                have c2355 := sf_ma tw2330 (p := 14) rfl
                                have c2356 := sf_ma tw2330 (p := 79) rfl
                                have c2357 := sf_ma tw2330 (p := 15) rfl
                                have c2358 := sf_ma tw2330 (p := 80) rfl
                                have c2359 := sf_ma tw2330 (p := 16) rfl
                                have c2360 := sf_ma tw2330 (p := 81) rfl
                                have c2361 := sf_ma tw2330 (p := 17) rfl
                                have c2362 := sf_ma tw2330 (p := 82) rfl
                                have c2363 := sf_ma tw2330 (p := 18) rfl
                                have c2364 := sf_ma tw2330 (p := 83) rfl
                                have c2365 := sf_ma tw2330 (p := 19) rfl
                                have c2366 := sf_ma tw2330 (p := 84) rfl
                                have c2367 := sf_ma tw2330 (p := 20) rfl
                                have c2368 := sf_ma tw2330 (p := 85) rfl
                                have c2369 := sf_ma tw2330 (p := 24) rfl
                                have c2370 := sf_ma tw2330 (p := 86) rfl
                                have c2371 := sf_ma tw2330 (p := 25) rfl
                                have c2372 := sf_ma tw2330 (p := 87) rfl
                                have c2373 := sf_ma tw2330 (p := 23) rfl
                                have c2374 := sf_ma tw2330 (p := 88) rfl
                                have c2375 := sf_ma tw2330 (p := 26) rfl
                                have c2376 := sf_ma tw2330 (p := 89) rfl
                                have c2377 := sf_ma tw2330 (p := 27) rfl
                                have c2378 := sf_ma tw2330 (p := 90) rfl
                                have c2379 := sf_ma tw2330 (p := 36) rfl
                                have c2380 := sf_ma tw2330 (p := 37) rfl
                                have c2381 := sf_mf tw2330 (p := 60) (j := 0) rfl
                                have c2382 := sf_ma tw2330 (p := 61) rfl
                                have c2383 := sf_ma tw2330 (p := 62) rfl
                                have c2384 := sf_ma tw2330 (p := 63) rfl
                                have c2385 := sf_ma tw2330 (p := 65) rfl
                                have c2386 := sf_ma tw2330 (p := 66) rfl
                                have c2387 := sf_mf tw2330 (p := 71) (j := 56) rfl
                                have c2388 := sf_ma tw2330 (p := 121) rfl
                                have c2389 := sf_ma tw2330 (p := 122) rfl
                                have c2390 := sf_ma tw2330 (p := 123) rfl
                                have c2391 := sf_ma tw2330 (p := 125) rfl
                                have c2392 := sf_ma tw2330 (p := 126) rfl
                                have c2393 := sf_ma tw2330 (p := 38) rfl
                                have c2394 := sf_ma tw2330 (p := 40) rfl
                                have c2395 := sf_ma tw2330 (p := 41) rfl
                                have c2396 := sf_ma tw2330 (p := 42) rfl
                                have c2397 := sf_ma tw2330 (p := 43) rfl
                                have c2398 := sf_ma tw2330 (p := 44) rfl
                                have c2399 := sf_ma tw2330 (p := 47) rfl
                                have c2400 := sf_ma tw2330 (p := 104) rfl
                                have c2401 := sf_ma tw2330 (p := 106) rfl
                                have c2402 := sf_ma tw2330 (p := 113) rfl
                                have c2403 := sf_ma tw2330 (p := 107) rfl
                                have c2404 := sf_ma tw2330 (p := 108) rfl
                                have c2405 := sf_ma tw2330 (p := 110) rfl
                                have c2406 := sf_ma tw2330 (p := 109) rfl
                                have c2407 := sf_mf tw2330 (p := 71) (j := 41) rfl
                                have c2408 := sf_ma tw2330 (p := 68) rfl
                                have c2409 := sf_ma tw2330 (p := 69) rfl
                                have c2410 := sf_ma tw2330 (p := 70) rfl
                                have c2411 := sf_ma tw2330 (p := 127) rfl
                                have c2412 := sf_ma tw2330 (p := 128) rfl
                                have c2413 := sf_ma tw2330 (p := 129) rfl
                                have U102 := q2331_1
                                have U103 := q2331_2
                                clear q2331_1 q2331_2
                                have G1 := q2331_0
                                have hrc : v2241.toInt = (sf_f w2330 71 0).toInt := by omega
                                have hcn : (v2241.toInt = 0 ∧ (sf_f w2330 71 35).toInt = (sf_f w 71 35).toInt + 1) ∨ (v2241.toInt ≠ 0 ∧ (sf_f w2330 71 35).toInt = (sf_f w 71 35).toInt) := by omega
                                have hQ36 := sf_QH f_20 U36 U102 (by omega) hrc hcn
                                have hQ37 := sf_QH f_21 U37 U103 (by omega) hrc hcn
                                have b12 := (sf_fb I_w (p := 71) (ci := 9) (j := 35) rfl rfl)
                                have b13 := (sf_fb Iw2330 (p := 71) (ci := 9) (j := 35) rfl rfl)
                                have hTU := sl_RTd f_25 f_26 (by omega) U102 U103 (by rw [← hrc]; exact hcn) (by omega)
                                have hRT := hTU.1
                                have hRU := hTU.2
                                refine sf_istore (L' := [(5, .inl (.int v2241)), (0, .inl (.ref 100000)), (1, .inl (.ref 0)), (2, .inl (.ref 71)), (3, .inl (.ref 130)), (4, .inl (.int x4))]) rfl ?_
                                show kt_W_law_1404 N xs K _ _ _ _ _
                                refine sf_iinc (L' := [(6, .inl (.int v2329)), (5, .inl (.int v2241)), (0, .inl (.ref 100000)), (1, .inl (.ref 0)), (2, .inl (.ref 71)), (3, .inl (.ref 130))]) (x := x4) sf_c8 rfl rfl (by omega) (fun v2414 ev2414 => ?_)
                                refine sf_can (L' := [(0, .inl (.ref 100000)), (1, .inl (.ref 0)), (2, .inl (.ref 71)), (3, .inl (.ref 130)), (4, .inl (.int v2414))]) rfl ?_
                                exact ih _ _ _ _ Iw2330 (by omega) (by omega) (by omega) (by omega) (by rw [c2332, c2244]; rw [c2333, c2245]; rw [c2334, c2246]; rw [c2335, c2247]; rw [c2336, c2248]; rw [c2337, c2249]; rw [c2338, c2250]; rw [c2339, c2251]; rw [c2340]; omega) (by rw [c2341, c2253]; rw [c2342, c2254]; rw [c2333, c2245]; first | exact f_1 | exact hJ) (by rw [c2343, c2255]; rw [c2344, c2256]; first | exact f_2 | exact hK2) (by rw [c2346, c2257]; rw [c2342, c2254]; rw [c2333, c2245]; first | exact f_3 | exact hQ2) (by rw [c2347, c2258]; rw [c2348, c2259]; rw [c2335, c2247]; first | exact f_4 | exact hQ6) (by rw [c2349, c2260]; rw [c2350, c2261]; rw [c2335, c2247]; first | exact f_5 | exact hQ7) (by rw [c2351, c2262]; rw [c2352, c2263]; rw [c2335, c2247]; first | exact f_6 | exact hQ8) (by rw [c2353, c2264]; rw [c2354, c2265]; rw [c2335, c2247]; first | exact f_7 | exact hQ9) (by rw [c2355, c2266]; rw [c2356, c2267]; rw [c2337, c2249]; first | exact f_8 | exact hQ14) (by rw [c2357, c2268]; rw [c2358, c2269]; rw [c2337, c2249]; first | exact f_9 | exact hQ15) (by rw [c2359, c2270]; rw [c2360, c2271]; rw [c2337, c2249]; first | exact f_10 | exact hQ16) (by rw [c2361, c2272]; rw [c2362, c2273]; rw [c2337, c2249]; first | exact f_11 | exact hQ17) (by rw [c2363, c2274]; rw [c2364, c2275]; rw [c2337, c2249]; first | exact f_12 | exact hQ18) (by rw [c2365, c2276]; rw [c2366, c2277]; rw [c2337, c2249]; first | exact f_13 | exact hQ19) (by rw [c2367, c2278]; rw [c2368, c2279]; rw [c2337, c2249]; first | exact f_14 | exact hQ20) (by rw [c2369, c2280]; rw [c2370, c2281]; rw [c2339, c2251]; first | exact f_15 | exact hQ24) (by rw [c2371, c2282]; rw [c2372, c2283]; rw [c2339, c2251]; first | exact f_16 | exact hQ25) (by rw [c2373, c2284]; rw [c2374, c2285]; rw [c2339, c2251]; first | exact f_17 | exact hQ23) (by rw [c2375, c2286]; rw [c2376, c2287]; rw [c2339, c2251]; first | exact f_18 | exact hQ26) (by rw [c2377, c2288]; rw [c2378, c2289]; rw [c2339, c2251]; first | exact f_19 | exact hQ27) (by rw [c2379]; first | exact f_20 | exact hQ36) (by rw [c2380]; first | exact f_21 | exact hQ37) (by rw [c2381, c2292]; rw [c2387, c2298]; rw [c2382, c2293]; rw [c2383, c2294]; rw [c2384, c2295]; rw [c2385, c2296]; rw [c2386, c2297]; rw [c2388, c2299]; rw [c2389, c2300]; rw [c2390, c2301]; rw [c2391, c2302]; rw [c2392, c2303]; exact f_22) (by rw [c2393, c2304]; rw [c2400, c2311]; rw [c2394, c2305]; rw [c2401, c2312]; rw [c2396, c2307]; rw [c2403, c2314]; rw [c2397, c2308]; rw [c2404, c2315]; rw [c2399, c2310]; rw [c2406, c2317]; rw [c2398, c2309]; rw [c2405, c2316]; exact f_23) (by rw [c2394, c2305]; rw [c2393, c2304]; rw [c2395, c2306]; rw [c2402, c2313]; exact f_24) (by rw [c2401, c2312]; rw [c2407, c2318]; exact hRT) (by rw [c2401, c2312]; exact hRU) (by rw [c2408, c2319]; rw [c2411, c2322]; rw [c2409, c2320]; rw [c2412, c2323]; rw [c2410, c2321]; rw [c2413, c2324]; exact f_27) (by omega)
                              · clear h2236
                                refine sf_sw1 sf_c13 (fun h2415 => ?_) (fun h2415 => ?_)
                                · refine sf_aload rfl ?_
                                  refine sf_aload rfl ?_
                                  refine sf_iload rfl ?_
                                  refine sf_iconst sf_c1 (fun z2416 ez2416 => ?_)
                                  refine sf_iadd (by omega) (fun v2417 ev2417 => ?_)
                                  refine sf_sldk (x := x4) (k := 1) (by omega) (by omega) (by omega) ?_
                                  clear ev2417 ez2416
                                  refine sf_aload rfl ?_
                                  refine sf_iload rfl ?_
                                  refine sf_iconst sf_c2 (fun z2418 ez2418 => ?_)
                                  refine sf_iadd (by omega) (fun v2419 ev2419 => ?_)
                                  refine sf_sldk (x := x4) (k := 2) (by omega) (by omega) (by omega) ?_
                                  clear ev2419 ez2418
                                  refine sf_aload rfl ?_
                                  refine sf_iload rfl ?_
                                  refine sf_iconst sf_c3 (fun z2420 ez2420 => ?_)
                                  refine sf_iadd (by omega) (fun v2421 ev2421 => ?_)
                                  refine sf_sldk (x := x4) (k := 3) (by omega) (by omega) (by omega) ?_
                                  clear ev2421 ez2420
                                  refine sf_aload rfl ?_
                                  refine sf_iload rfl ?_
                                  refine sf_iconst sf_c4 (fun z2422 ez2422 => ?_)
                                  refine sf_iadd (by omega) (fun v2423 ev2423 => ?_)
                                  refine sf_sldk (x := x4) (k := 4) (by omega) (by omega) (by omega) ?_
                                  clear ev2423 ez2422
                                  refine sf_aload rfl ?_
                                  refine sf_iload rfl ?_
                                  refine sf_iconst sf_c5 (fun z2424 ez2424 => ?_)
                                  refine sf_iadd (by omega) (fun v2425 ev2425 => ?_)
                                  refine sf_sldk (x := x4) (k := 5) (by omega) (by omega) (by omega) ?_
                                  clear ev2425 ez2424
                                  refine sf_aload rfl ?_
                                  refine sf_iload rfl ?_
                                  refine sf_iconst sf_c6 (fun z2426 ez2426 => ?_)
                                  refine sf_iadd (by omega) (fun v2427 ev2427 => ?_)
                                  refine sf_sldk (x := x4) (k := 6) (by omega) (by omega) (by omega) ?_
                                  clear ev2427 ez2426
                                  refine sf_aload rfl ?_
                                  refine sf_iload rfl ?_
                                  refine sf_iconst sf_c7 (fun z2428 ez2428 => ?_)
                                  refine sf_iadd (by omega) (fun v2429 ev2429 => ?_)
                                  refine sf_sldk (x := x4) (k := 7) (by omega) (by omega) (by omega) ?_
                                  clear ev2429 ez2428
                                  refine sf_f1_eq (fun h2430 => ?_) (fun h2430 => ?_)
                                  · refine sf_iconst sf_c0 (fun z2431 ez2431 => ?_)
                                    refine sf_aload rfl ?_
                                    refine sf_callv9 rfl (by omega) (by omega) ?_
                                    refine sc_W_line_0_130 I_w (by omega) (by omega) (fun v2432 w2433 Iw2433 tw2433 lv2432 uv2432 q2434_0 q2434_1 q2434_2 q2434_3 q2434_4 q2434_5 => ?_)
                                    have c2435 := sf_mf tw2433 (p := 1) (j := 0) rfl
                                    have c2436 := sf_mf tw2433 (p := 71) (j := 1) rfl
                                    have c2437 := sf_mf tw2433 (p := 1) (j := 5) rfl
                                    have c2438 := sf_mf tw2433 (p := 71) (j := 5) rfl
                                    have c2439 := sf_mf tw2433 (p := 13) (j := 1) rfl
                                    have c2440 := sf_mf tw2433 (p := 71) (j := 10) rfl
                                    have c2441 := sf_mf tw2433 (p := 21) (j := 1) rfl
                                    have c2442 := sf_mf tw2433 (p := 71) (j := 18) rfl
                                    have c2443 := sf_mf tw2433 (p := 35) (j := 0) rfl
                                    have c2444 := sf_mf tw2433 (p := 71) (j := 35) rfl
                                    have c2445 := sf_ma tw2433 (p := 3) rfl
                                    have c2446 := sf_ma tw2433 (p := 72) rfl
                                    have c2447 := sf_mg tw2433 (p := 10) rfl
                                    have c2448 := sf_ma tw2433 (p := 93) rfl
                                    have c2449 := sf_ma tw2433 (p := 2) rfl
                                    have c2450 := sf_ma tw2433 (p := 6) rfl
                                    have c2451 := sf_ma tw2433 (p := 75) rfl
                                    have c2452 := sf_ma tw2433 (p := 7) rfl
                                    have c2453 := sf_ma tw2433 (p := 76) rfl
                                    have c2454 := sf_ma tw2433 (p := 8) rfl
                                    have c2455 := sf_ma tw2433 (p := 77) rfl
                                    have c2456 := sf_ma tw2433 (p := 9) rfl
                                    have c2457 := sf_ma tw2433 (p := 78) rfl
                                    have c2458 := sf_ma tw2433 (p := 14) rfl
                                    have c2459 := sf_ma tw2433 (p := 79) rfl
                                    have c2460 := sf_ma tw2433 (p := 15) rfl
                                    have c2461 := sf_ma tw2433 (p := 80) rfl
                                    have c2462 := sf_ma tw2433 (p := 16) rfl
                                    have c2463 := sf_ma tw2433 (p := 81) rfl
                                    have c2464 := sf_ma tw2433 (p := 17) rfl
                                    have c2465 := sf_ma tw2433 (p := 82) rfl
                                    have c2466 := sf_ma tw2433 (p := 18) rfl
                                    have c2467 := sf_ma tw2433 (p := 83) rfl
                                    have c2468 := sf_ma tw2433 (p := 19) rfl
                                    have c2469 := sf_ma tw2433 (p := 84) rfl
                                    have c2470 := sf_ma tw2433 (p := 20) rfl
                                    have c2471 := sf_ma tw2433 (p := 85) rfl
                                    have c2472 := sf_ma tw2433 (p := 24) rfl
                                    have c2473 := sf_ma tw2433 (p := 86) rfl
                                    have c2474 := sf_ma tw2433 (p := 25) rfl
                                    have c2475 := sf_ma tw2433 (p := 87) rfl
                                    have c2476 := sf_ma tw2433 (p := 23) rfl
                                    have c2477 := sf_ma tw2433 (p := 88) rfl
                                    have c2478 := sf_ma tw2433 (p := 26) rfl
                                    have c2479 := sf_ma tw2433 (p := 89) rfl
                                    have c2480 := sf_ma tw2433 (p := 27) rfl
                                    have c2481 := sf_ma tw2433 (p := 90) rfl
                                    have c2482 := sf_ma tw2433 (p := 36) rfl
                                    have c2483 := sf_ma tw2433 (p := 102) rfl
                                    have c2484 := sf_ma tw2433 (p := 37) rfl
                                    have c2485 := sf_ma tw2433 (p := 103) rfl
                                    have c2486 := sf_mf tw2433 (p := 60) (j := 0) rfl
                                    have c2487 := sf_ma tw2433 (p := 61) rfl
                                    have c2488 := sf_ma tw2433 (p := 62) rfl
                                    have c2489 := sf_ma tw2433 (p := 63) rfl
                                    have c2490 := sf_ma tw2433 (p := 65) rfl
                                    have c2491 := sf_ma tw2433 (p := 66) rfl
                                    have c2492 := sf_mf tw2433 (p := 71) (j := 56) rfl
                                    have c2493 := sf_ma tw2433 (p := 121) rfl
                                    have c2494 := sf_ma tw2433 (p := 122) rfl
                                    have c2495 := sf_ma tw2433 (p := 123) rfl
                                    have c2496 := sf_ma tw2433 (p := 125) rfl
                                    have c2497 := sf_ma tw2433 (p := 126) rfl
                                    have c2498 := sf_ma tw2433 (p := 40) rfl
                                    have c2499 := sf_ma tw2433 (p := 41) rfl
                                    have c2500 := sf_ma tw2433 (p := 104) rfl
                                    have c2501 := sf_ma tw2433 (p := 106) rfl
                                    have c2502 := sf_ma tw2433 (p := 113) rfl
                                    have c2503 := sf_ma tw2433 (p := 107) rfl
                                    have c2504 := sf_ma tw2433 (p := 108) rfl
                                    have c2505 := sf_ma tw2433 (p := 110) rfl
                                    have c2506 := sf_ma tw2433 (p := 109) rfl
                                    have c2507 := sf_mf tw2433 (p := 71) (j := 41) rfl
                                    have c2508 := sf_ma tw2433 (p := 68) rfl
                                    have c2509 := sf_ma tw2433 (p := 69) rfl
                                    have c2510 := sf_ma tw2433 (p := 70) rfl
                                    have c2511 := sf_ma tw2433 (p := 127) rfl
                                    have c2512 := sf_ma tw2433 (p := 128) rfl
                                    have c2513 := sf_ma tw2433 (p := 129) rfl
                                    have F0 := q2434_0
                                    have F1 := q2434_1
                                    have F2 := q2434_2
                                    have F3 := q2434_3
                                    have F4 := q2434_4
                                    have F5 := q2434_5
                                    clear q2434_0 q2434_1 q2434_2 q2434_3 q2434_4 q2434_5
                                    refine sf_istore (L' := [(0, .inl (.ref 100000)), (1, .inl (.ref 0)), (2, .inl (.ref 71)), (3, .inl (.ref 130)), (4, .inl (.int x4))]) rfl ?_
                                    refine sf_aload rfl ?_
                                    refine sf_aload rfl ?_
                                    refine sf_iload rfl ?_
                                    refine sf_iconst sf_c1 (fun z2514 ez2514 => ?_)
                                    refine sf_iadd (by omega) (fun v2515 ev2515 => ?_)
                                    refine sf_sldk (x := x4) (k := 1) (by omega) (by omega) (by omega) ?_
                                    clear ev2515 ez2514
                                    refine sf_aload rfl ?_
                                    refine sf_iload rfl ?_
                                    refine sf_iconst sf_c2 (fun z2516 ez2516 => ?_)
                                    refine sf_iadd (by omega) (fun v2517 ev2517 => ?_)
                                    refine sf_sldk (x := x4) (k := 2) (by omega) (by omega) (by omega) ?_
                                    clear ev2517 ez2516
                                    refine sf_aload rfl ?_
                                    refine sf_iload rfl ?_
                                    refine sf_iconst sf_c3 (fun z2518 ez2518 => ?_)
                                    refine sf_iadd (by omega) (fun v2519 ev2519 => ?_)
                                    refine sf_sldk (x := x4) (k := 3) (by omega) (by omega) (by omega) ?_
                                    clear ev2519 ez2518
                                    refine sf_aload rfl ?_
                                    refine sf_iload rfl ?_
                                    refine sf_iconst sf_c4 (fun z2520 ez2520 => ?_)
                                    refine sf_iadd (by omega) (fun v2521 ev2521 => ?_)
                                    refine sf_sldk (x := x4) (k := 4) (by omega) (by omega) (by omega) ?_
                                    clear ev2521 ez2520
                                    refine sf_aload rfl ?_
                                    refine sf_iload rfl ?_
                                    refine sf_iconst sf_c5 (fun z2522 ez2522 => ?_)
                                    refine sf_iadd (by omega) (fun v2523 ev2523 => ?_)
                                    refine sf_sldk (x := x4) (k := 5) (by omega) (by omega) (by omega) ?_
                                    clear ev2523 ez2522
                                    refine sf_aload rfl ?_
                                    refine sf_iload rfl ?_
                                    refine sf_iconst sf_c6 (fun z2524 ez2524 => ?_)
                                    refine sf_iadd (by omega) (fun v2525 ev2525 => ?_)
                                    refine sf_sldk (x := x4) (k := 6) (by omega) (by omega) (by omega) ?_
                                    clear ev2525 ez2524
                                    refine sf_aload rfl ?_
                                    refine sf_iload rfl ?_
                                    refine sf_iconst sf_c7 (fun z2526 ez2526 => ?_)
                                    refine sf_iadd (by omega) (fun v2527 ev2527 => ?_)
                                    refine sf_sldk (x := x4) (k := 7) (by omega) (by omega) (by omega) ?_
                                    clear ev2527 ez2526
                                    refine sf_f1_eq (fun h2528 => ?_) (fun h2528 => absurd h2528 (by omega))
                                    refine sf_iconst sf_c0 (fun z2529 ez2529 => ?_)
                                    refine sf_callv8 rfl (by omega) (by omega) ?_
                                    refine sf_rv Iw2433 rfl ?_
                                    refine sc_M_line Iw2433 (by omega) (by omega) (fun v2530 w2531 Iw2531 tw2531 lv2530 uv2530 q2532_0 q2532_1 q2532_2 q2532_3 q2532_4 q2532_5 => ?_)
                                    rw [c2500] at q2532_0
                                    rw [c2501] at q2532_0
                                    rw [c2444] at q2532_0
                                    rw [c2500] at q2532_1
                                    rw [c2503] at q2532_1
                                    rw [c2500] at q2532_2
                                    rw [c2504] at q2532_2
                                    rw [c2500] at q2532_3
                                    rw [c2506] at q2532_3
                                    rw [c2500] at q2532_4
                                    rw [c2500] at q2532_5
                                    rw [c2505] at q2532_5
                                    have c2533 := sf_mf tw2531 (p := 1) (j := 0) rfl
                                    have c2534 := sf_mf tw2531 (p := 71) (j := 1) rfl
                                    have c2535 := sf_mf tw2531 (p := 1) (j := 5) rfl
                                    have c2536 := sf_mf tw2531 (p := 71) (j := 5) rfl
                                    have c2537 := sf_mf tw2531 (p := 13) (j := 1) rfl
                                    have c2538 := sf_mf tw2531 (p := 71) (j := 10) rfl
                                    have c2539 := sf_mf tw2531 (p := 21) (j := 1) rfl
                                    have c2540 := sf_mf tw2531 (p := 71) (j := 18) rfl
                                    have c2541 := sf_mf tw2531 (p := 35) (j := 0) rfl
                                    have c2542 := sf_mf tw2531 (p := 71) (j := 35) rfl
                                    have c2543 := sf_ma tw2531 (p := 3) rfl
                                    have c2544 := sf_ma tw2531 (p := 72) rfl
                                    have c2545 := sf_mg tw2531 (p := 10) rfl
                                    have c2546 := sf_ma tw2531 (p := 93) rfl
                                    have c2547 := sf_mL tw2531 (p := 130) rfl
                                    have c2548 := sf_ma tw2531 (p := 2) rfl
                                    have c2549 := sf_ma tw2531 (p := 6) rfl
                                    have c2550 := sf_ma tw2531 (p := 75) rfl
                                    have c2551 := sf_ma tw2531 (p := 7) rfl
                                    have c2552 := sf_ma tw2531 (p := 76) rfl
                                    have c2553 := sf_ma tw2531 (p := 8) rfl
                                    have c2554 := sf_ma tw2531 (p := 77) rfl
                                    have c2555 := sf_ma tw2531 (p := 9) rfl
                                    have c2556 := sf_ma tw2531 (p := 78) rfl
                                    have c2557 := sf_ma tw2531 (p := 14) rfl
                                    have c2558 := sf_ma tw2531 (p := 79) rfl
                                    have c2559 := sf_ma tw2531 (p := 15) rfl
                                    have c2560 := sf_ma tw2531 (p := 80) rfl
                                    have c2561 := sf_ma tw2531 (p := 16) rfl
                                    have c2562 := sf_ma tw2531 (p := 81) rfl
                                    have c2563 := sf_ma tw2531 (p := 17) rfl
                                    have c2564 := sf_ma tw2531 (p := 82) rfl
                                    have c2565 := sf_ma tw2531 (p := 18) rfl
                                    have c2566 := sf_ma tw2531 (p := 83) rfl
                                    have c2567 := sf_ma tw2531 (p := 19) rfl
                                    have c2568 := sf_ma tw2531 (p := 84) rfl
                                    have c2569 := sf_ma tw2531 (p := 20) rfl
                                    have c2570 := sf_ma tw2531 (p := 85) rfl
                                    have c2571 := sf_ma tw2531 (p := 24) rfl
                                    have c2572 := sf_ma tw2531 (p := 86) rfl
                                    have c2573 := sf_ma tw2531 (p := 25) rfl
                                    have c2574 := sf_ma tw2531 (p := 87) rfl
                                    have c2575 := sf_ma tw2531 (p := 23) rfl
                                    have c2576 := sf_ma tw2531 (p := 88) rfl
                                    have c2577 := sf_ma tw2531 (p := 26) rfl
                                    have c2578 := sf_ma tw2531 (p := 89) rfl
                                    have c2579 := sf_ma tw2531 (p := 27) rfl
                                    have c2580 := sf_ma tw2531 (p := 90) rfl
                                    have c2581 := sf_ma tw2531 (p := 36) rfl
                                    have c2582 := sf_ma tw2531 (p := 102) rfl
                                    have c2583 := sf_ma tw2531 (p := 37) rfl
                                    have c2584 := sf_ma tw2531 (p := 103) rfl
                                    have c2585 := sf_mf tw2531 (p := 60) (j := 0) rfl
                                    have c2586 := sf_ma tw2531 (p := 61) rfl
                                    have c2587 := sf_ma tw2531 (p := 62) rfl
                                    have c2588 := sf_ma tw2531 (p := 63) rfl
                                    have c2589 := sf_ma tw2531 (p := 65) rfl
                                    have c2590 := sf_ma tw2531 (p := 66) rfl
                                    have c2591 := sf_mf tw2531 (p := 71) (j := 56) rfl
                                    have c2592 := sf_ma tw2531 (p := 121) rfl
                                    have c2593 := sf_ma tw2531 (p := 122) rfl
                                    have c2594 := sf_ma tw2531 (p := 123) rfl
                                    have c2595 := sf_ma tw2531 (p := 125) rfl
                                    have c2596 := sf_ma tw2531 (p := 126) rfl
                                    have c2597 := sf_ma tw2531 (p := 38) rfl
                                    have c2598 := sf_ma tw2531 (p := 40) rfl
                                    have c2599 := sf_ma tw2531 (p := 41) rfl
                                    have c2600 := sf_ma tw2531 (p := 42) rfl
                                    have c2601 := sf_ma tw2531 (p := 43) rfl
                                    have c2602 := sf_ma tw2531 (p := 44) rfl
                                    have c2603 := sf_ma tw2531 (p := 47) rfl
                                    have c2604 := sf_ma tw2531 (p := 106) rfl
                                    have c2605 := sf_ma tw2531 (p := 113) rfl
                                    have c2606 := sf_mf tw2531 (p := 71) (j := 41) rfl
                                    have c2607 := sf_ma tw2531 (p := 68) rfl
                                    have c2608 := sf_ma tw2531 (p := 69) rfl
                                    have c2609 := sf_ma tw2531 (p := 70) rfl
                                    have c2610 := sf_ma tw2531 (p := 127) rfl
                                    have c2611 := sf_ma tw2531 (p := 128) rfl
                                    have c2612 := sf_ma tw2531 (p := 129) rfl
                                    have G0 := q2532_0
                                    have G1 := q2532_1
                                    have G2 := q2532_2
                                    have G3 := q2532_3
                                    have G4 := q2532_4
                                    have G5 := q2532_5
                                    clear q2532_0 q2532_1 q2532_2 q2532_3 q2532_4 q2532_5
                                    have b12 := (sf_fb I_w (p := 71) (ci := 9) (j := 35) rfl rfl)
                                    have hda : 0 ≤ (xs (x4.toInt.toNat + 1)).toInt → (xs (x4.toInt.toNat + 1)).toInt < (sf_f w 71 35).toInt → (sf_a w 40 (xs (x4.toInt.toNat + 1)).toInt.toNat).toInt = (sf_a w 106 (xs (x4.toInt.toNat + 1)).toInt.toNat).toInt := fun h1 h2 => by rw [f_23.2.1 _ (by omega)]
                                    have hdl : 0 ≤ (xs (x4.toInt.toNat + 1)).toInt → (xs (x4.toInt.toNat + 1)).toInt < (sf_f w 71 35).toInt → (sf_a w 38 (xs (x4.toInt.toNat + 1)).toInt.toNat).toInt = (sf_a w 104 (xs (x4.toInt.toNat + 1)).toInt.toNat).toInt := fun h1 h2 => by rw [f_23.1 _ (by omega)]
                                    have hrc : v2432.toInt = (sf_f w2531 71 0).toInt := by omega
                                    have hix : v2432.toInt = 0 → 4 * (xs (x4.toInt.toNat + 1)).toInt + (sf_a w 38 (xs (x4.toInt.toNat + 1)).toInt.toNat).toInt = 4 * (xs (x4.toInt.toNat + 1)).toInt + (sf_a w 104 (xs (x4.toInt.toNat + 1)).toInt.toNat).toInt := fun h9 => by have h8 := hdl (by omega) (by omega); omega
                                    have hRD : sl_RD (sf_a w2433 38) (sf_a w2531 104) (sf_a w 40) (sf_a w 106) (sf_a w2433 42) (sf_a w2531 107) (sf_a w2433 43) (sf_a w2531 108) (sf_a w2433 47) (sf_a w2531 109) (sf_a w2433 44) (sf_a w2531 110) := ⟨sl_QUL f_23.1 F5 G4 rfl hrc (fun h9 => by omega), f_23.2.1, sl_QU f_23.2.2.1 F1 G1 hix hrc rfl, sl_QU f_23.2.2.2.1 F2 G2 hix hrc rfl, sl_QU f_23.2.2.2.2.1 F4 G3 hix hrc (by omega), sl_Q3U f_23.2.2.2.2.2 F3 G5 hix hrc rfl⟩
                                    have hRF : sl_RF (sf_a w 40) (sf_a w2433 38) (sf_a w 41) (sf_a w 113) := sl_RFU f_24 F5 (fun h9 => by omega)
                                    clear F1 F2 F3 F4 F5 G1 G2 G3 G4 G5 hix
                                    refine sf_istore (L' := [(5, .inl (.int v2432)), (0, .inl (.ref 100000)), (1, .inl (.ref 0)), (2, .inl (.ref 71)), (3, .inl (.ref 130)), (4, .inl (.int x4))]) rfl ?_
                                    show kt_W_law_1404 N xs K _ _ _ _ _
                                    refine sf_iinc (L' := [(6, .inl (.int v2530)), (5, .inl (.int v2432)), (0, .inl (.ref 100000)), (1, .inl (.ref 0)), (2, .inl (.ref 71)), (3, .inl (.ref 130))]) (x := x4) sf_c8 rfl rfl (by omega) (fun v2613 ev2613 => ?_)
                                    refine sf_can (L' := [(0, .inl (.ref 100000)), (1, .inl (.ref 0)), (2, .inl (.ref 71)), (3, .inl (.ref 130)), (4, .inl (.int v2613))]) rfl ?_
                                    exact ih _ _ _ _ Iw2531 (by omega) (by omega) (by omega) (by omega) (by rw [c2533, c2435]; rw [c2534, c2436]; rw [c2535, c2437]; rw [c2536, c2438]; rw [c2537, c2439]; rw [c2538, c2440]; rw [c2539, c2441]; rw [c2540, c2442]; rw [c2541, c2443]; rw [c2542, c2444]; omega) (by rw [c2543, c2445]; rw [c2544, c2446]; rw [c2534, c2436]; first | exact f_1 | exact hJ) (by rw [c2545, c2447]; rw [c2546, c2448]; first | exact f_2 | exact hK2) (by rw [c2548, c2449]; rw [c2544, c2446]; rw [c2534, c2436]; first | exact f_3 | exact hQ2) (by rw [c2549, c2450]; rw [c2550, c2451]; rw [c2536, c2438]; first | exact f_4 | exact hQ6) (by rw [c2551, c2452]; rw [c2552, c2453]; rw [c2536, c2438]; first | exact f_5 | exact hQ7) (by rw [c2553, c2454]; rw [c2554, c2455]; rw [c2536, c2438]; first | exact f_6 | exact hQ8) (by rw [c2555, c2456]; rw [c2556, c2457]; rw [c2536, c2438]; first | exact f_7 | exact hQ9) (by rw [c2557, c2458]; rw [c2558, c2459]; rw [c2538, c2440]; first | exact f_8 | exact hQ14) (by rw [c2559, c2460]; rw [c2560, c2461]; rw [c2538, c2440]; first | exact f_9 | exact hQ15) (by rw [c2561, c2462]; rw [c2562, c2463]; rw [c2538, c2440]; first | exact f_10 | exact hQ16) (by rw [c2563, c2464]; rw [c2564, c2465]; rw [c2538, c2440]; first | exact f_11 | exact hQ17) (by rw [c2565, c2466]; rw [c2566, c2467]; rw [c2538, c2440]; first | exact f_12 | exact hQ18) (by rw [c2567, c2468]; rw [c2568, c2469]; rw [c2538, c2440]; first | exact f_13 | exact hQ19) (by rw [c2569, c2470]; rw [c2570, c2471]; rw [c2538, c2440]; first | exact f_14 | exact hQ20) (by rw [c2571, c2472]; rw [c2572, c2473]; rw [c2540, c2442]; first | exact f_15 | exact hQ24) (by rw [c2573, c2474]; rw [c2574, c2475]; rw [c2540, c2442]; first | exact f_16 | exact hQ25) (by rw [c2575, c2476]; rw [c2576, c2477]; rw [c2540, c2442]; first | exact f_17 | exact hQ23) (by rw [c2577, c2478]; rw [c2578, c2479]; rw [c2540, c2442]; first | exact f_18 | exact hQ26) (by rw [c2579, c2480]; rw [c2580, c2481]; rw [c2540, c2442]; first | exact f_19 | exact hQ27) (by rw [c2581, c2482]; rw [c2582, c2483]; rw [c2542, c2444]; first | exact f_20 | exact hQ36) (by rw [c2583, c2484]; rw [c2584, c2485]; rw [c2542, c2444]; first | exact f_21 | exact hQ37) (by rw [c2585, c2486]; rw [c2591, c2492]; rw [c2586, c2487]; rw [c2587, c2488]; rw [c2588, c2489]; rw [c2589, c2490]; rw [c2590, c2491]; rw [c2592, c2493]; rw [c2593, c2494]; rw [c2594, c2495]; rw [c2595, c2496]; rw [c2596, c2497]; exact f_22) (by rw [c2597]; rw [c2598, c2498]; rw [c2604, c2501]; rw [c2600]; rw [c2601]; rw [c2603]; rw [c2602]; exact hRD) (by rw [c2598, c2498]; rw [c2597]; rw [c2599, c2499]; rw [c2605, c2502]; exact hRF) (by rw [c2582, c2483]; rw [c2584, c2485]; rw [c2604, c2501]; rw [c2542, c2444]; rw [c2606, c2507]; exact f_25) (by rw [c2604, c2501]; rw [c2542, c2444]; exact f_26) (by rw [c2607, c2508]; rw [c2610, c2511]; rw [c2608, c2509]; rw [c2611, c2512]; rw [c2609, c2510]; rw [c2612, c2513]; exact f_27) (by omega)
                                  · refine sf_iconst sf_c1 (fun z2614 ez2614 => ?_)
                                    show kt_W_law_881 N xs K _ _ _ _ _
                                    refine sf_aload rfl ?_
                                    refine sf_callv9 rfl (by omega) (by omega) ?_
                                    refine sc_W_line_0_130 I_w (by omega) (by omega) (fun v2615 w2616 Iw2616 tw2616 lv2615 uv2615 q2617_0 q2617_1 q2617_2 q2617_3 q2617_4 q2617_5 => ?_)
                                    have c2618 := sf_mf tw2616 (p := 1) (j := 0) rfl
                                    have c2619 := sf_mf tw2616 (p := 71) (j := 1) rfl
                                    have c2620 := sf_mf tw2616 (p := 1) (j := 5) rfl
                                    have c2621 := sf_mf tw2616 (p := 71) (j := 5) rfl
                                    have c2622 := sf_mf tw2616 (p := 13) (j := 1) rfl
                                    have c2623 := sf_mf tw2616 (p := 71) (j := 10) rfl
                                    have c2624 := sf_mf tw2616 (p := 21) (j := 1) rfl
                                    have c2625 := sf_mf tw2616 (p := 71) (j := 18) rfl
                                    have c2626 := sf_mf tw2616 (p := 35) (j := 0) rfl
                                    have c2627 := sf_mf tw2616 (p := 71) (j := 35) rfl
                                    have c2628 := sf_ma tw2616 (p := 3) rfl
                                    have c2629 := sf_ma tw2616 (p := 72) rfl
                                    have c2630 := sf_mg tw2616 (p := 10) rfl
                                    have c2631 := sf_ma tw2616 (p := 93) rfl
                                    have c2632 := sf_ma tw2616 (p := 2) rfl
                                    have c2633 := sf_ma tw2616 (p := 6) rfl
                                    have c2634 := sf_ma tw2616 (p := 75) rfl
                                    have c2635 := sf_ma tw2616 (p := 7) rfl
                                    have c2636 := sf_ma tw2616 (p := 76) rfl
                                    have c2637 := sf_ma tw2616 (p := 8) rfl
                                    have c2638 := sf_ma tw2616 (p := 77) rfl
                                    have c2639 := sf_ma tw2616 (p := 9) rfl
                                    have c2640 := sf_ma tw2616 (p := 78) rfl
                                    have c2641 := sf_ma tw2616 (p := 14) rfl
                                    have c2642 := sf_ma tw2616 (p := 79) rfl
                                    have c2643 := sf_ma tw2616 (p := 15) rfl
                                    have c2644 := sf_ma tw2616 (p := 80) rfl
                                    have c2645 := sf_ma tw2616 (p := 16) rfl
                                    have c2646 := sf_ma tw2616 (p := 81) rfl
                                    have c2647 := sf_ma tw2616 (p := 17) rfl
                                    have c2648 := sf_ma tw2616 (p := 82) rfl
                                    have c2649 := sf_ma tw2616 (p := 18) rfl
                                    have c2650 := sf_ma tw2616 (p := 83) rfl
                                    have c2651 := sf_ma tw2616 (p := 19) rfl
                                    have c2652 := sf_ma tw2616 (p := 84) rfl
                                    have c2653 := sf_ma tw2616 (p := 20) rfl
                                    have c2654 := sf_ma tw2616 (p := 85) rfl
                                    have c2655 := sf_ma tw2616 (p := 24) rfl
                                    have c2656 := sf_ma tw2616 (p := 86) rfl
                                    have c2657 := sf_ma tw2616 (p := 25) rfl
                                    have c2658 := sf_ma tw2616 (p := 87) rfl
                                    have c2659 := sf_ma tw2616 (p := 23) rfl
                                    have c2660 := sf_ma tw2616 (p := 88) rfl
                                    have c2661 := sf_ma tw2616 (p := 26) rfl
                                    have c2662 := sf_ma tw2616 (p := 89) rfl
                                    have c2663 := sf_ma tw2616 (p := 27) rfl
                                    have c2664 := sf_ma tw2616 (p := 90) rfl
                                    have c2665 := sf_ma tw2616 (p := 36) rfl
                                    have c2666 := sf_ma tw2616 (p := 102) rfl
                                    have c2667 := sf_ma tw2616 (p := 37) rfl
                                    have c2668 := sf_ma tw2616 (p := 103) rfl
                                    have c2669 := sf_mf tw2616 (p := 60) (j := 0) rfl
                                    have c2670 := sf_ma tw2616 (p := 61) rfl
                                    have c2671 := sf_ma tw2616 (p := 62) rfl
                                    have c2672 := sf_ma tw2616 (p := 63) rfl
                                    have c2673 := sf_ma tw2616 (p := 65) rfl
                                    have c2674 := sf_ma tw2616 (p := 66) rfl
                                    have c2675 := sf_mf tw2616 (p := 71) (j := 56) rfl
                                    have c2676 := sf_ma tw2616 (p := 121) rfl
                                    have c2677 := sf_ma tw2616 (p := 122) rfl
                                    have c2678 := sf_ma tw2616 (p := 123) rfl
                                    have c2679 := sf_ma tw2616 (p := 125) rfl
                                    have c2680 := sf_ma tw2616 (p := 126) rfl
                                    have c2681 := sf_ma tw2616 (p := 40) rfl
                                    have c2682 := sf_ma tw2616 (p := 41) rfl
                                    have c2683 := sf_ma tw2616 (p := 104) rfl
                                    have c2684 := sf_ma tw2616 (p := 106) rfl
                                    have c2685 := sf_ma tw2616 (p := 113) rfl
                                    have c2686 := sf_ma tw2616 (p := 107) rfl
                                    have c2687 := sf_ma tw2616 (p := 108) rfl
                                    have c2688 := sf_ma tw2616 (p := 110) rfl
                                    have c2689 := sf_ma tw2616 (p := 109) rfl
                                    have c2690 := sf_mf tw2616 (p := 71) (j := 41) rfl
                                    have c2691 := sf_ma tw2616 (p := 68) rfl
                                    have c2692 := sf_ma tw2616 (p := 69) rfl
                                    have c2693 := sf_ma tw2616 (p := 70) rfl
                                    have c2694 := sf_ma tw2616 (p := 127) rfl
                                    have c2695 := sf_ma tw2616 (p := 128) rfl
                                    have c2696 := sf_ma tw2616 (p := 129) rfl
                                    have F0 := q2617_0
                                    have F1 := q2617_1
                                    have F2 := q2617_2
                                    have F3 := q2617_3
                                    have F4 := q2617_4
                                    have F5 := q2617_5
                                    clear q2617_0 q2617_1 q2617_2 q2617_3 q2617_4 q2617_5
                                    refine sf_istore (L' := [(0, .inl (.ref 100000)), (1, .inl (.ref 0)), (2, .inl (.ref 71)), (3, .inl (.ref 130)), (4, .inl (.int x4))]) rfl ?_
                                    refine sf_aload rfl ?_
                                    refine sf_aload rfl ?_
                                    refine sf_iload rfl ?_
                                    refine sf_iconst sf_c1 (fun z2697 ez2697 => ?_)
                                    refine sf_iadd (by omega) (fun v2698 ev2698 => ?_)
                                    refine sf_sldk (x := x4) (k := 1) (by omega) (by omega) (by omega) ?_
                                    clear ev2698 ez2697
                                    refine sf_aload rfl ?_
                                    refine sf_iload rfl ?_
                                    refine sf_iconst sf_c2 (fun z2699 ez2699 => ?_)
                                    refine sf_iadd (by omega) (fun v2700 ev2700 => ?_)
                                    refine sf_sldk (x := x4) (k := 2) (by omega) (by omega) (by omega) ?_
                                    clear ev2700 ez2699
                                    refine sf_aload rfl ?_
                                    refine sf_iload rfl ?_
                                    refine sf_iconst sf_c3 (fun z2701 ez2701 => ?_)
                                    refine sf_iadd (by omega) (fun v2702 ev2702 => ?_)
                                    refine sf_sldk (x := x4) (k := 3) (by omega) (by omega) (by omega) ?_
                                    clear ev2702 ez2701
                                    refine sf_aload rfl ?_
                                    refine sf_iload rfl ?_
                                    refine sf_iconst sf_c4 (fun z2703 ez2703 => ?_)
                                    refine sf_iadd (by omega) (fun v2704 ev2704 => ?_)
                                    refine sf_sldk (x := x4) (k := 4) (by omega) (by omega) (by omega) ?_
                                    clear ev2704 ez2703
                                    refine sf_aload rfl ?_
                                    refine sf_iload rfl ?_
                                    refine sf_iconst sf_c5 (fun z2705 ez2705 => ?_)
                                    refine sf_iadd (by omega) (fun v2706 ev2706 => ?_)
                                    refine sf_sldk (x := x4) (k := 5) (by omega) (by omega) (by omega) ?_
                                    clear ev2706 ez2705
                                    refine sf_aload rfl ?_
                                    refine sf_iload rfl ?_
                                    refine sf_iconst sf_c6 (fun z2707 ez2707 => ?_)
                                    refine sf_iadd (by omega) (fun v2708 ev2708 => ?_)
                                    refine sf_sldk (x := x4) (k := 6) (by omega) (by omega) (by omega) ?_
                                    clear ev2708 ez2707
                                    refine sf_aload rfl ?_
                                    refine sf_iload rfl ?_
                                    refine sf_iconst sf_c7 (fun z2709 ez2709 => ?_)
                                    refine sf_iadd (by omega) (fun v2710 ev2710 => ?_)
                                    refine sf_sldk (x := x4) (k := 7) (by omega) (by omega) (by omega) ?_
                                    clear ev2710 ez2709
                                    refine sf_f1_eq (fun h2711 => ?_) (fun h2711 => ?_)
                                    · refine sf_iconst sf_c0 (fun z2712 ez2712 => ?_)
                                      refine sf_callv8 rfl (by omega) (by omega) ?_
                                      refine sf_rv Iw2616 rfl ?_
                                      refine sc_M_line Iw2616 (by omega) (by omega) (fun v2713 w2714 Iw2714 tw2714 lv2713 uv2713 q2715_0 q2715_1 q2715_2 q2715_3 q2715_4 q2715_5 => ?_)
                                      rw [c2683] at q2715_0
                                      rw [c2684] at q2715_0
                                      rw [c2627] at q2715_0
                                      rw [c2683] at q2715_1
                                      rw [c2686] at q2715_1
                                      rw [c2683] at q2715_2
                                      rw [c2687] at q2715_2
                                      rw [c2683] at q2715_3
                                      rw [c2689] at q2715_3
                                      rw [c2683] at q2715_4
                                      rw [c2683] at q2715_5
                                      rw [c2688] at q2715_5
                                      have c2716 := sf_mf tw2714 (p := 1) (j := 0) rfl
                                      have c2717 := sf_mf tw2714 (p := 71) (j := 1) rfl
                                      have c2718 := sf_mf tw2714 (p := 1) (j := 5) rfl
                                      have c2719 := sf_mf tw2714 (p := 71) (j := 5) rfl
                                      have c2720 := sf_mf tw2714 (p := 13) (j := 1) rfl
                                      have c2721 := sf_mf tw2714 (p := 71) (j := 10) rfl
                                      have c2722 := sf_mf tw2714 (p := 21) (j := 1) rfl
                                      have c2723 := sf_mf tw2714 (p := 71) (j := 18) rfl
                                      have c2724 := sf_mf tw2714 (p := 35) (j := 0) rfl
                                      have c2725 := sf_mf tw2714 (p := 71) (j := 35) rfl
                                      have c2726 := sf_ma tw2714 (p := 3) rfl
                                      have c2727 := sf_ma tw2714 (p := 72) rfl
                                      have c2728 := sf_mg tw2714 (p := 10) rfl
                                      have c2729 := sf_ma tw2714 (p := 93) rfl
                                      have c2730 := sf_mL tw2714 (p := 130) rfl
                                      have c2731 := sf_ma tw2714 (p := 2) rfl
                                      have c2732 := sf_ma tw2714 (p := 6) rfl
                                      have c2733 := sf_ma tw2714 (p := 75) rfl
                                      have c2734 := sf_ma tw2714 (p := 7) rfl
                                      have c2735 := sf_ma tw2714 (p := 76) rfl
                                      have c2736 := sf_ma tw2714 (p := 8) rfl
                                      have c2737 := sf_ma tw2714 (p := 77) rfl
                                      have c2738 := sf_ma tw2714 (p := 9) rfl
                                      have c2739 := sf_ma tw2714 (p := 78) rfl
                                      have c2740 := sf_ma tw2714 (p := 14) rfl
                                      have c2741 := sf_ma tw2714 (p := 79) rfl
                                      have c2742 := sf_ma tw2714 (p := 15) rfl
                                      have c2743 := sf_ma tw2714 (p := 80) rfl
                                      have c2744 := sf_ma tw2714 (p := 16) rfl
                                      have c2745 := sf_ma tw2714 (p := 81) rfl
                                      have c2746 := sf_ma tw2714 (p := 17) rfl
                                      have c2747 := sf_ma tw2714 (p := 82) rfl
                                      have c2748 := sf_ma tw2714 (p := 18) rfl
                                      have c2749 := sf_ma tw2714 (p := 83) rfl
                                      have c2750 := sf_ma tw2714 (p := 19) rfl
                                      have c2751 := sf_ma tw2714 (p := 84) rfl
                                      have c2752 := sf_ma tw2714 (p := 20) rfl
                                      have c2753 := sf_ma tw2714 (p := 85) rfl
                                      have c2754 := sf_ma tw2714 (p := 24) rfl
                                      have c2755 := sf_ma tw2714 (p := 86) rfl
                                      have c2756 := sf_ma tw2714 (p := 25) rfl
                                      have c2757 := sf_ma tw2714 (p := 87) rfl
                                      have c2758 := sf_ma tw2714 (p := 23) rfl
                                      have c2759 := sf_ma tw2714 (p := 88) rfl
                                      have c2760 := sf_ma tw2714 (p := 26) rfl
                                      have c2761 := sf_ma tw2714 (p := 89) rfl
                                      have c2762 := sf_ma tw2714 (p := 27) rfl
                                      have c2763 := sf_ma tw2714 (p := 90) rfl
                                      have c2764 := sf_ma tw2714 (p := 36) rfl
                                      have c2765 := sf_ma tw2714 (p := 102) rfl
                                      have c2766 := sf_ma tw2714 (p := 37) rfl
                                      have c2767 := sf_ma tw2714 (p := 103) rfl
                                      have c2768 := sf_mf tw2714 (p := 60) (j := 0) rfl
                                      have c2769 := sf_ma tw2714 (p := 61) rfl
                                      have c2770 := sf_ma tw2714 (p := 62) rfl
                                      have c2771 := sf_ma tw2714 (p := 63) rfl
                                      have c2772 := sf_ma tw2714 (p := 65) rfl
                                      have c2773 := sf_ma tw2714 (p := 66) rfl
                                      have c2774 := sf_mf tw2714 (p := 71) (j := 56) rfl
                                      have c2775 := sf_ma tw2714 (p := 121) rfl
                                      have c2776 := sf_ma tw2714 (p := 122) rfl
                                      have c2777 := sf_ma tw2714 (p := 123) rfl
                                      have c2778 := sf_ma tw2714 (p := 125) rfl
                                      have c2779 := sf_ma tw2714 (p := 126) rfl
                                      have c2780 := sf_ma tw2714 (p := 38) rfl
                                      have c2781 := sf_ma tw2714 (p := 40) rfl
                                      have c2782 := sf_ma tw2714 (p := 41) rfl
                                      have c2783 := sf_ma tw2714 (p := 42) rfl
                                      have c2784 := sf_ma tw2714 (p := 43) rfl
                                      have c2785 := sf_ma tw2714 (p := 44) rfl
                                      have c2786 := sf_ma tw2714 (p := 47) rfl
                                      have c2787 := sf_ma tw2714 (p := 106) rfl
                                      have c2788 := sf_ma tw2714 (p := 113) rfl
                                      have c2789 := sf_mf tw2714 (p := 71) (j := 41) rfl
                                      have c2790 := sf_ma tw2714 (p := 68) rfl
                                      have c2791 := sf_ma tw2714 (p := 69) rfl
                                      have c2792 := sf_ma tw2714 (p := 70) rfl
                                      have c2793 := sf_ma tw2714 (p := 127) rfl
                                      have c2794 := sf_ma tw2714 (p := 128) rfl
                                      have c2795 := sf_ma tw2714 (p := 129) rfl
                                      have G0 := q2715_0
                                      have G1 := q2715_1
                                      have G2 := q2715_2
                                      have G3 := q2715_3
                                      have G4 := q2715_4
                                      have G5 := q2715_5
                                      clear q2715_0 q2715_1 q2715_2 q2715_3 q2715_4 q2715_5
                                      have b12 := (sf_fb I_w (p := 71) (ci := 9) (j := 35) rfl rfl)
                                      have hda : 0 ≤ (xs (x4.toInt.toNat + 1)).toInt → (xs (x4.toInt.toNat + 1)).toInt < (sf_f w 71 35).toInt → (sf_a w 40 (xs (x4.toInt.toNat + 1)).toInt.toNat).toInt = (sf_a w 106 (xs (x4.toInt.toNat + 1)).toInt.toNat).toInt := fun h1 h2 => by rw [f_23.2.1 _ (by omega)]
                                      have hdl : 0 ≤ (xs (x4.toInt.toNat + 1)).toInt → (xs (x4.toInt.toNat + 1)).toInt < (sf_f w 71 35).toInt → (sf_a w 38 (xs (x4.toInt.toNat + 1)).toInt.toNat).toInt = (sf_a w 104 (xs (x4.toInt.toNat + 1)).toInt.toNat).toInt := fun h1 h2 => by rw [f_23.1 _ (by omega)]
                                      have hrc : v2615.toInt = (sf_f w2714 71 0).toInt := by omega
                                      have hix : v2615.toInt = 0 → 4 * (xs (x4.toInt.toNat + 1)).toInt + (sf_a w 38 (xs (x4.toInt.toNat + 1)).toInt.toNat).toInt = 4 * (xs (x4.toInt.toNat + 1)).toInt + (sf_a w 104 (xs (x4.toInt.toNat + 1)).toInt.toNat).toInt := fun h9 => by have h8 := hdl (by omega) (by omega); omega
                                      have hRD : sl_RD (sf_a w2616 38) (sf_a w2714 104) (sf_a w 40) (sf_a w 106) (sf_a w2616 42) (sf_a w2714 107) (sf_a w2616 43) (sf_a w2714 108) (sf_a w2616 47) (sf_a w2714 109) (sf_a w2616 44) (sf_a w2714 110) := ⟨sl_QUL f_23.1 F5 G4 rfl hrc (fun h9 => by omega), f_23.2.1, sl_QU f_23.2.2.1 F1 G1 hix hrc rfl, sl_QU f_23.2.2.2.1 F2 G2 hix hrc rfl, sl_QU f_23.2.2.2.2.1 F4 G3 hix hrc (by omega), sl_Q3U f_23.2.2.2.2.2 F3 G5 hix hrc rfl⟩
                                      have hRF : sl_RF (sf_a w 40) (sf_a w2616 38) (sf_a w 41) (sf_a w 113) := sl_RFU f_24 F5 (fun h9 => by omega)
                                      clear F1 F2 F3 F4 F5 G1 G2 G3 G4 G5 hix
                                      refine sf_istore (L' := [(5, .inl (.int v2615)), (0, .inl (.ref 100000)), (1, .inl (.ref 0)), (2, .inl (.ref 71)), (3, .inl (.ref 130)), (4, .inl (.int x4))]) rfl ?_
                                      show kt_W_law_1404 N xs K _ _ _ _ _
                                      refine sf_iinc (L' := [(6, .inl (.int v2713)), (5, .inl (.int v2615)), (0, .inl (.ref 100000)), (1, .inl (.ref 0)), (2, .inl (.ref 71)), (3, .inl (.ref 130))]) (x := x4) sf_c8 rfl rfl (by omega) (fun v2796 ev2796 => ?_)
                                      refine sf_can (L' := [(0, .inl (.ref 100000)), (1, .inl (.ref 0)), (2, .inl (.ref 71)), (3, .inl (.ref 130)), (4, .inl (.int v2796))]) rfl ?_
                                      exact ih _ _ _ _ Iw2714 (by omega) (by omega) (by omega) (by omega) (by rw [c2716, c2618]; rw [c2717, c2619]; rw [c2718, c2620]; rw [c2719, c2621]; rw [c2720, c2622]; rw [c2721, c2623]; rw [c2722, c2624]; rw [c2723, c2625]; rw [c2724, c2626]; rw [c2725, c2627]; omega) (by rw [c2726, c2628]; rw [c2727, c2629]; rw [c2717, c2619]; first | exact f_1 | exact hJ) (by rw [c2728, c2630]; rw [c2729, c2631]; first | exact f_2 | exact hK2) (by rw [c2731, c2632]; rw [c2727, c2629]; rw [c2717, c2619]; first | exact f_3 | exact hQ2) (by rw [c2732, c2633]; rw [c2733, c2634]; rw [c2719, c2621]; first | exact f_4 | exact hQ6) (by rw [c2734, c2635]; rw [c2735, c2636]; rw [c2719, c2621]; first | exact f_5 | exact hQ7) (by rw [c2736, c2637]; rw [c2737, c2638]; rw [c2719, c2621]; first | exact f_6 | exact hQ8) (by rw [c2738, c2639]; rw [c2739, c2640]; rw [c2719, c2621]; first | exact f_7 | exact hQ9) (by rw [c2740, c2641]; rw [c2741, c2642]; rw [c2721, c2623]; first | exact f_8 | exact hQ14) (by rw [c2742, c2643]; rw [c2743, c2644]; rw [c2721, c2623]; first | exact f_9 | exact hQ15) (by rw [c2744, c2645]; rw [c2745, c2646]; rw [c2721, c2623]; first | exact f_10 | exact hQ16) (by rw [c2746, c2647]; rw [c2747, c2648]; rw [c2721, c2623]; first | exact f_11 | exact hQ17) (by rw [c2748, c2649]; rw [c2749, c2650]; rw [c2721, c2623]; first | exact f_12 | exact hQ18) (by rw [c2750, c2651]; rw [c2751, c2652]; rw [c2721, c2623]; first | exact f_13 | exact hQ19) (by rw [c2752, c2653]; rw [c2753, c2654]; rw [c2721, c2623]; first | exact f_14 | exact hQ20) (by rw [c2754, c2655]; rw [c2755, c2656]; rw [c2723, c2625]; first | exact f_15 | exact hQ24) (by rw [c2756, c2657]; rw [c2757, c2658]; rw [c2723, c2625]; first | exact f_16 | exact hQ25) (by rw [c2758, c2659]; rw [c2759, c2660]; rw [c2723, c2625]; first | exact f_17 | exact hQ23) (by rw [c2760, c2661]; rw [c2761, c2662]; rw [c2723, c2625]; first | exact f_18 | exact hQ26) (by rw [c2762, c2663]; rw [c2763, c2664]; rw [c2723, c2625]; first | exact f_19 | exact hQ27) (by rw [c2764, c2665]; rw [c2765, c2666]; rw [c2725, c2627]; first | exact f_20 | exact hQ36) (by rw [c2766, c2667]; rw [c2767, c2668]; rw [c2725, c2627]; first | exact f_21 | exact hQ37) (by rw [c2768, c2669]; rw [c2774, c2675]; rw [c2769, c2670]; rw [c2770, c2671]; rw [c2771, c2672]; rw [c2772, c2673]; rw [c2773, c2674]; rw [c2775, c2676]; rw [c2776, c2677]; rw [c2777, c2678]; rw [c2778, c2679]; rw [c2779, c2680]; exact f_22) (by rw [c2780]; rw [c2781, c2681]; rw [c2787, c2684]; rw [c2783]; rw [c2784]; rw [c2786]; rw [c2785]; exact hRD) (by rw [c2781, c2681]; rw [c2780]; rw [c2782, c2682]; rw [c2788, c2685]; exact hRF) (by rw [c2765, c2666]; rw [c2767, c2668]; rw [c2787, c2684]; rw [c2725, c2627]; rw [c2789, c2690]; exact f_25) (by rw [c2787, c2684]; rw [c2725, c2627]; exact f_26) (by rw [c2790, c2691]; rw [c2793, c2694]; rw [c2791, c2692]; rw [c2794, c2695]; rw [c2792, c2693]; rw [c2795, c2696]; exact f_27) (by omega)
                                    · refine sf_iconst sf_c1 (fun z2797 ez2797 => ?_)
                                      show kt_W_law_940 N xs K _ _ _ _ _
                                      refine sf_callv8 rfl (by omega) (by omega) ?_
                                      refine sf_rv Iw2616 rfl ?_
                                      refine sc_M_line Iw2616 (by omega) (by omega) (fun v2798 w2799 Iw2799 tw2799 lv2798 uv2798 q2800_0 q2800_1 q2800_2 q2800_3 q2800_4 q2800_5 => ?_)
                                      rw [c2683] at q2800_0
                                      rw [c2684] at q2800_0
                                      rw [c2627] at q2800_0
                                      rw [c2683] at q2800_1
                                      rw [c2686] at q2800_1
                                      rw [c2683] at q2800_2
                                      rw [c2687] at q2800_2
                                      rw [c2683] at q2800_3
                                      rw [c2689] at q2800_3
                                      rw [c2683] at q2800_4
                                      rw [c2683] at q2800_5
                                      rw [c2688] at q2800_5
                                      have c2801 := sf_mf tw2799 (p := 1) (j := 0) rfl
                                      have c2802 := sf_mf tw2799 (p := 71) (j := 1) rfl
                                      have c2803 := sf_mf tw2799 (p := 1) (j := 5) rfl
                                      have c2804 := sf_mf tw2799 (p := 71) (j := 5) rfl
                                      have c2805 := sf_mf tw2799 (p := 13) (j := 1) rfl
                                      have c2806 := sf_mf tw2799 (p := 71) (j := 10) rfl
                                      have c2807 := sf_mf tw2799 (p := 21) (j := 1) rfl
                                      have c2808 := sf_mf tw2799 (p := 71) (j := 18) rfl
                                      have c2809 := sf_mf tw2799 (p := 35) (j := 0) rfl
                                      have c2810 := sf_mf tw2799 (p := 71) (j := 35) rfl
                                      have c2811 := sf_ma tw2799 (p := 3) rfl
                                      have c2812 := sf_ma tw2799 (p := 72) rfl
                                      have c2813 := sf_mg tw2799 (p := 10) rfl
                                      have c2814 := sf_ma tw2799 (p := 93) rfl
                                      have c2815 := sf_mL tw2799 (p := 130) rfl
                                      have c2816 := sf_ma tw2799 (p := 2) rfl
                                      have c2817 := sf_ma tw2799 (p := 6) rfl
                                      have c2818 := sf_ma tw2799 (p := 75) rfl
                                      have c2819 := sf_ma tw2799 (p := 7) rfl
                                      have c2820 := sf_ma tw2799 (p := 76) rfl
                                      have c2821 := sf_ma tw2799 (p := 8) rfl
                                      have c2822 := sf_ma tw2799 (p := 77) rfl
                                      have c2823 := sf_ma tw2799 (p := 9) rfl
                                      have c2824 := sf_ma tw2799 (p := 78) rfl
                                      have c2825 := sf_ma tw2799 (p := 14) rfl
                                      have c2826 := sf_ma tw2799 (p := 79) rfl
                                      have c2827 := sf_ma tw2799 (p := 15) rfl
                                      have c2828 := sf_ma tw2799 (p := 80) rfl
                                      have c2829 := sf_ma tw2799 (p := 16) rfl
                                      have c2830 := sf_ma tw2799 (p := 81) rfl
                                      have c2831 := sf_ma tw2799 (p := 17) rfl
                                      have c2832 := sf_ma tw2799 (p := 82) rfl
                                      have c2833 := sf_ma tw2799 (p := 18) rfl
                                      have c2834 := sf_ma tw2799 (p := 83) rfl
                                      have c2835 := sf_ma tw2799 (p := 19) rfl
                                      have c2836 := sf_ma tw2799 (p := 84) rfl
                                      have c2837 := sf_ma tw2799 (p := 20) rfl
                                      have c2838 := sf_ma tw2799 (p := 85) rfl
                                      have c2839 := sf_ma tw2799 (p := 24) rfl
                                      have c2840 := sf_ma tw2799 (p := 86) rfl
                                      have c2841 := sf_ma tw2799 (p := 25) rfl
                                      have c2842 := sf_ma tw2799 (p := 87) rfl
                                      have c2843 := sf_ma tw2799 (p := 23) rfl
                                      have c2844 := sf_ma tw2799 (p := 88) rfl
                                      have c2845 := sf_ma tw2799 (p := 26) rfl
                                      have c2846 := sf_ma tw2799 (p := 89) rfl
                                      have c2847 := sf_ma tw2799 (p := 27) rfl
                                      have c2848 := sf_ma tw2799 (p := 90) rfl
                                      have c2849 := sf_ma tw2799 (p := 36) rfl
                                      have c2850 := sf_ma tw2799 (p := 102) rfl
                                      have c2851 := sf_ma tw2799 (p := 37) rfl
                                      have c2852 := sf_ma tw2799 (p := 103) rfl
                                      have c2853 := sf_mf tw2799 (p := 60) (j := 0) rfl
                                      have c2854 := sf_ma tw2799 (p := 61) rfl
                                      have c2855 := sf_ma tw2799 (p := 62) rfl
                                      have c2856 := sf_ma tw2799 (p := 63) rfl
                                      have c2857 := sf_ma tw2799 (p := 65) rfl
                                      have c2858 := sf_ma tw2799 (p := 66) rfl
                                      have c2859 := sf_mf tw2799 (p := 71) (j := 56) rfl
                                      have c2860 := sf_ma tw2799 (p := 121) rfl
                                      have c2861 := sf_ma tw2799 (p := 122) rfl
                                      have c2862 := sf_ma tw2799 (p := 123) rfl
                                      have c2863 := sf_ma tw2799 (p := 125) rfl
                                      have c2864 := sf_ma tw2799 (p := 126) rfl
                                      have c2865 := sf_ma tw2799 (p := 38) rfl
                                      have c2866 := sf_ma tw2799 (p := 40) rfl
                                      have c2867 := sf_ma tw2799 (p := 41) rfl
                                      have c2868 := sf_ma tw2799 (p := 42) rfl
                                      have c2869 := sf_ma tw2799 (p := 43) rfl
                                      have c2870 := sf_ma tw2799 (p := 44) rfl
                                      have c2871 := sf_ma tw2799 (p := 47) rfl
                                      have c2872 := sf_ma tw2799 (p := 106) rfl
                                      have c2873 := sf_ma tw2799 (p := 113) rfl
                                      have c2874 := sf_mf tw2799 (p := 71) (j := 41) rfl
                                      have c2875 := sf_ma tw2799 (p := 68) rfl
                                      have c2876 := sf_ma tw2799 (p := 69) rfl
                                      have c2877 := sf_ma tw2799 (p := 70) rfl
                                      have c2878 := sf_ma tw2799 (p := 127) rfl
                                      have c2879 := sf_ma tw2799 (p := 128) rfl
                                      have c2880 := sf_ma tw2799 (p := 129) rfl
                                      have G0 := q2800_0
                                      have G1 := q2800_1
                                      have G2 := q2800_2
                                      have G3 := q2800_3
                                      have G4 := q2800_4
                                      have G5 := q2800_5
                                      clear q2800_0 q2800_1 q2800_2 q2800_3 q2800_4 q2800_5
                                      have b12 := (sf_fb I_w (p := 71) (ci := 9) (j := 35) rfl rfl)
                                      have hda : 0 ≤ (xs (x4.toInt.toNat + 1)).toInt → (xs (x4.toInt.toNat + 1)).toInt < (sf_f w 71 35).toInt → (sf_a w 40 (xs (x4.toInt.toNat + 1)).toInt.toNat).toInt = (sf_a w 106 (xs (x4.toInt.toNat + 1)).toInt.toNat).toInt := fun h1 h2 => by rw [f_23.2.1 _ (by omega)]
                                      have hdl : 0 ≤ (xs (x4.toInt.toNat + 1)).toInt → (xs (x4.toInt.toNat + 1)).toInt < (sf_f w 71 35).toInt → (sf_a w 38 (xs (x4.toInt.toNat + 1)).toInt.toNat).toInt = (sf_a w 104 (xs (x4.toInt.toNat + 1)).toInt.toNat).toInt := fun h1 h2 => by rw [f_23.1 _ (by omega)]
                                      have hrc : v2615.toInt = (sf_f w2799 71 0).toInt := by omega
                                      have hix : v2615.toInt = 0 → 4 * (xs (x4.toInt.toNat + 1)).toInt + (sf_a w 38 (xs (x4.toInt.toNat + 1)).toInt.toNat).toInt = 4 * (xs (x4.toInt.toNat + 1)).toInt + (sf_a w 104 (xs (x4.toInt.toNat + 1)).toInt.toNat).toInt := fun h9 => by have h8 := hdl (by omega) (by omega); omega
                                      have hRD : sl_RD (sf_a w2616 38) (sf_a w2799 104) (sf_a w 40) (sf_a w 106) (sf_a w2616 42) (sf_a w2799 107) (sf_a w2616 43) (sf_a w2799 108) (sf_a w2616 47) (sf_a w2799 109) (sf_a w2616 44) (sf_a w2799 110) := ⟨sl_QUL f_23.1 F5 G4 rfl hrc (fun h9 => by omega), f_23.2.1, sl_QU f_23.2.2.1 F1 G1 hix hrc rfl, sl_QU f_23.2.2.2.1 F2 G2 hix hrc rfl, sl_QU f_23.2.2.2.2.1 F4 G3 hix hrc (by omega), sl_Q3U f_23.2.2.2.2.2 F3 G5 hix hrc rfl⟩
                                      have hRF : sl_RF (sf_a w 40) (sf_a w2616 38) (sf_a w 41) (sf_a w 113) := sl_RFU f_24 F5 (fun h9 => by omega)
                                      clear F1 F2 F3 F4 F5 G1 G2 G3 G4 G5 hix
                                      refine sf_istore (L' := [(5, .inl (.int v2615)), (0, .inl (.ref 100000)), (1, .inl (.ref 0)), (2, .inl (.ref 71)), (3, .inl (.ref 130)), (4, .inl (.int x4))]) rfl ?_
                                      show kt_W_law_1404 N xs K _ _ _ _ _
                                      refine sf_iinc (L' := [(6, .inl (.int v2798)), (5, .inl (.int v2615)), (0, .inl (.ref 100000)), (1, .inl (.ref 0)), (2, .inl (.ref 71)), (3, .inl (.ref 130))]) (x := x4) sf_c8 rfl rfl (by omega) (fun v2881 ev2881 => ?_)
                                      refine sf_can (L' := [(0, .inl (.ref 100000)), (1, .inl (.ref 0)), (2, .inl (.ref 71)), (3, .inl (.ref 130)), (4, .inl (.int v2881))]) rfl ?_
                                      exact ih _ _ _ _ Iw2799 (by omega) (by omega) (by omega) (by omega) (by rw [c2801, c2618]; rw [c2802, c2619]; rw [c2803, c2620]; rw [c2804, c2621]; rw [c2805, c2622]; rw [c2806, c2623]; rw [c2807, c2624]; rw [c2808, c2625]; rw [c2809, c2626]; rw [c2810, c2627]; omega) (by rw [c2811, c2628]; rw [c2812, c2629]; rw [c2802, c2619]; first | exact f_1 | exact hJ) (by rw [c2813, c2630]; rw [c2814, c2631]; first | exact f_2 | exact hK2) (by rw [c2816, c2632]; rw [c2812, c2629]; rw [c2802, c2619]; first | exact f_3 | exact hQ2) (by rw [c2817, c2633]; rw [c2818, c2634]; rw [c2804, c2621]; first | exact f_4 | exact hQ6) (by rw [c2819, c2635]; rw [c2820, c2636]; rw [c2804, c2621]; first | exact f_5 | exact hQ7) (by rw [c2821, c2637]; rw [c2822, c2638]; rw [c2804, c2621]; first | exact f_6 | exact hQ8) (by rw [c2823, c2639]; rw [c2824, c2640]; rw [c2804, c2621]; first | exact f_7 | exact hQ9) (by rw [c2825, c2641]; rw [c2826, c2642]; rw [c2806, c2623]; first | exact f_8 | exact hQ14) (by rw [c2827, c2643]; rw [c2828, c2644]; rw [c2806, c2623]; first | exact f_9 | exact hQ15) (by rw [c2829, c2645]; rw [c2830, c2646]; rw [c2806, c2623]; first | exact f_10 | exact hQ16) (by rw [c2831, c2647]; rw [c2832, c2648]; rw [c2806, c2623]; first | exact f_11 | exact hQ17) (by rw [c2833, c2649]; rw [c2834, c2650]; rw [c2806, c2623]; first | exact f_12 | exact hQ18) (by rw [c2835, c2651]; rw [c2836, c2652]; rw [c2806, c2623]; first | exact f_13 | exact hQ19) (by rw [c2837, c2653]; rw [c2838, c2654]; rw [c2806, c2623]; first | exact f_14 | exact hQ20) (by rw [c2839, c2655]; rw [c2840, c2656]; rw [c2808, c2625]; first | exact f_15 | exact hQ24) (by rw [c2841, c2657]; rw [c2842, c2658]; rw [c2808, c2625]; first | exact f_16 | exact hQ25) (by rw [c2843, c2659]; rw [c2844, c2660]; rw [c2808, c2625]; first | exact f_17 | exact hQ23) (by rw [c2845, c2661]; rw [c2846, c2662]; rw [c2808, c2625]; first | exact f_18 | exact hQ26) (by rw [c2847, c2663]; rw [c2848, c2664]; rw [c2808, c2625]; first | exact f_19 | exact hQ27) (by rw [c2849, c2665]; rw [c2850, c2666]; rw [c2810, c2627]; first | exact f_20 | exact hQ36) (by rw [c2851, c2667]; rw [c2852, c2668]; rw [c2810, c2627]; first | exact f_21 | exact hQ37) (by rw [c2853, c2669]; rw [c2859, c2675]; rw [c2854, c2670]; rw [c2855, c2671]; rw [c2856, c2672]; rw [c2857, c2673]; rw [c2858, c2674]; rw [c2860, c2676]; rw [c2861, c2677]; rw [c2862, c2678]; rw [c2863, c2679]; rw [c2864, c2680]; exact f_22) (by rw [c2865]; rw [c2866, c2681]; rw [c2872, c2684]; rw [c2868]; rw [c2869]; rw [c2871]; rw [c2870]; exact hRD) (by rw [c2866, c2681]; rw [c2865]; rw [c2867, c2682]; rw [c2873, c2685]; exact hRF) (by rw [c2850, c2666]; rw [c2852, c2668]; rw [c2872, c2684]; rw [c2810, c2627]; rw [c2874, c2690]; exact f_25) (by rw [c2872, c2684]; rw [c2810, c2627]; exact f_26) (by rw [c2875, c2691]; rw [c2878, c2694]; rw [c2876, c2692]; rw [c2879, c2695]; rw [c2877, c2693]; rw [c2880, c2696]; exact f_27) (by omega)
                                · clear h2415
                                  refine sf_sw1 sf_c14 (fun h2882 => ?_) (fun h2882 => ?_)
                                  · refine sf_aload rfl ?_
                                    refine sf_aload rfl ?_
                                    refine sf_iload rfl ?_
                                    refine sf_iconst sf_c1 (fun z2883 ez2883 => ?_)
                                    refine sf_iadd (by omega) (fun v2884 ev2884 => ?_)
                                    refine sf_sldk (x := x4) (k := 1) (by omega) (by omega) (by omega) ?_
                                    clear ev2884 ez2883
                                    refine sf_aload rfl ?_
                                    refine sf_iload rfl ?_
                                    refine sf_iconst sf_c2 (fun z2885 ez2885 => ?_)
                                    refine sf_iadd (by omega) (fun v2886 ev2886 => ?_)
                                    refine sf_sldk (x := x4) (k := 2) (by omega) (by omega) (by omega) ?_
                                    clear ev2886 ez2885
                                    refine sf_aload rfl ?_
                                    refine sf_iload rfl ?_
                                    refine sf_iconst sf_c3 (fun z2887 ez2887 => ?_)
                                    refine sf_iadd (by omega) (fun v2888 ev2888 => ?_)
                                    refine sf_sldk (x := x4) (k := 3) (by omega) (by omega) (by omega) ?_
                                    clear ev2888 ez2887
                                    refine sf_callv4 rfl (by omega) (by omega) ?_
                                    refine sc_W_charge_0 I_w  (fun v2889 w2890 Iw2890 tw2890 lv2889 uv2889 q2891_0 => ?_)
                                    have c2892 := sf_mf tw2890 (p := 1) (j := 0) rfl
                                    have c2893 := sf_mf tw2890 (p := 71) (j := 1) rfl
                                    have c2894 := sf_mf tw2890 (p := 1) (j := 5) rfl
                                    have c2895 := sf_mf tw2890 (p := 71) (j := 5) rfl
                                    have c2896 := sf_mf tw2890 (p := 13) (j := 1) rfl
                                    have c2897 := sf_mf tw2890 (p := 71) (j := 10) rfl
                                    have c2898 := sf_mf tw2890 (p := 21) (j := 1) rfl
                                    have c2899 := sf_mf tw2890 (p := 71) (j := 18) rfl
                                    have c2900 := sf_mf tw2890 (p := 35) (j := 0) rfl
                                    have c2901 := sf_mf tw2890 (p := 71) (j := 35) rfl
                                    have c2902 := sf_ma tw2890 (p := 3) rfl
                                    have c2903 := sf_ma tw2890 (p := 72) rfl
                                    have c2904 := sf_mg tw2890 (p := 10) rfl
                                    have c2905 := sf_ma tw2890 (p := 93) rfl
                                    have c2906 := sf_mL tw2890 (p := 130) rfl
                                    have c2907 := sf_ma tw2890 (p := 2) rfl
                                    have c2908 := sf_ma tw2890 (p := 6) rfl
                                    have c2909 := sf_ma tw2890 (p := 75) rfl
                                    have c2910 := sf_ma tw2890 (p := 7) rfl
                                    have c2911 := sf_ma tw2890 (p := 76) rfl
                                    have c2912 := sf_ma tw2890 (p := 8) rfl
                                    have c2913 := sf_ma tw2890 (p := 77) rfl
                                    have c2914 := sf_ma tw2890 (p := 9) rfl
                                    have c2915 := sf_ma tw2890 (p := 78) rfl
                                    have c2916 := sf_ma tw2890 (p := 14) rfl
                                    have c2917 := sf_ma tw2890 (p := 79) rfl
                                    have c2918 := sf_ma tw2890 (p := 15) rfl
                                    have c2919 := sf_ma tw2890 (p := 80) rfl
                                    have c2920 := sf_ma tw2890 (p := 16) rfl
                                    have c2921 := sf_ma tw2890 (p := 81) rfl
                                    have c2922 := sf_ma tw2890 (p := 17) rfl
                                    have c2923 := sf_ma tw2890 (p := 82) rfl
                                    have c2924 := sf_ma tw2890 (p := 18) rfl
                                    have c2925 := sf_ma tw2890 (p := 83) rfl
                                    have c2926 := sf_ma tw2890 (p := 19) rfl
                                    have c2927 := sf_ma tw2890 (p := 84) rfl
                                    have c2928 := sf_ma tw2890 (p := 20) rfl
                                    have c2929 := sf_ma tw2890 (p := 85) rfl
                                    have c2930 := sf_ma tw2890 (p := 24) rfl
                                    have c2931 := sf_ma tw2890 (p := 86) rfl
                                    have c2932 := sf_ma tw2890 (p := 25) rfl
                                    have c2933 := sf_ma tw2890 (p := 87) rfl
                                    have c2934 := sf_ma tw2890 (p := 23) rfl
                                    have c2935 := sf_ma tw2890 (p := 88) rfl
                                    have c2936 := sf_ma tw2890 (p := 26) rfl
                                    have c2937 := sf_ma tw2890 (p := 89) rfl
                                    have c2938 := sf_ma tw2890 (p := 27) rfl
                                    have c2939 := sf_ma tw2890 (p := 90) rfl
                                    have c2940 := sf_ma tw2890 (p := 36) rfl
                                    have c2941 := sf_ma tw2890 (p := 102) rfl
                                    have c2942 := sf_ma tw2890 (p := 37) rfl
                                    have c2943 := sf_ma tw2890 (p := 103) rfl
                                    have c2944 := sf_mf tw2890 (p := 60) (j := 0) rfl
                                    have c2945 := sf_ma tw2890 (p := 61) rfl
                                    have c2946 := sf_ma tw2890 (p := 62) rfl
                                    have c2947 := sf_ma tw2890 (p := 63) rfl
                                    have c2948 := sf_ma tw2890 (p := 65) rfl
                                    have c2949 := sf_ma tw2890 (p := 66) rfl
                                    have c2950 := sf_mf tw2890 (p := 71) (j := 56) rfl
                                    have c2951 := sf_ma tw2890 (p := 121) rfl
                                    have c2952 := sf_ma tw2890 (p := 122) rfl
                                    have c2953 := sf_ma tw2890 (p := 123) rfl
                                    have c2954 := sf_ma tw2890 (p := 125) rfl
                                    have c2955 := sf_ma tw2890 (p := 126) rfl
                                    have c2956 := sf_ma tw2890 (p := 38) rfl
                                    have c2957 := sf_ma tw2890 (p := 40) rfl
                                    have c2958 := sf_ma tw2890 (p := 41) rfl
                                    have c2959 := sf_ma tw2890 (p := 42) rfl
                                    have c2960 := sf_ma tw2890 (p := 43) rfl
                                    have c2961 := sf_ma tw2890 (p := 44) rfl
                                    have c2962 := sf_ma tw2890 (p := 47) rfl
                                    have c2963 := sf_ma tw2890 (p := 104) rfl
                                    have c2964 := sf_ma tw2890 (p := 106) rfl
                                    have c2965 := sf_ma tw2890 (p := 113) rfl
                                    have c2966 := sf_ma tw2890 (p := 107) rfl
                                    have c2967 := sf_ma tw2890 (p := 108) rfl
                                    have c2968 := sf_ma tw2890 (p := 110) rfl
                                    have c2969 := sf_ma tw2890 (p := 109) rfl
                                    have c2970 := sf_mf tw2890 (p := 71) (j := 41) rfl
                                    have c2971 := sf_ma tw2890 (p := 68) rfl
                                    have c2972 := sf_ma tw2890 (p := 69) rfl
                                    have c2973 := sf_ma tw2890 (p := 70) rfl
                                    have c2974 := sf_ma tw2890 (p := 127) rfl
                                    have c2975 := sf_ma tw2890 (p := 128) rfl
                                    have c2976 := sf_ma tw2890 (p := 129) rfl
                                    have F0 := q2891_0
                                    clear q2891_0
                                    refine sf_istore (L' := [(0, .inl (.ref 100000)), (1, .inl (.ref 0)), (2, .inl (.ref 71)), (3, .inl (.ref 130)), (4, .inl (.int x4))]) rfl ?_
                                    refine sf_aload rfl ?_
                                    refine sf_aload rfl ?_
                                    refine sf_iload rfl ?_
                                    refine sf_iconst sf_c1 (fun z2977 ez2977 => ?_)
                                    refine sf_iadd (by omega) (fun v2978 ev2978 => ?_)
                                    refine sf_sldk (x := x4) (k := 1) (by omega) (by omega) (by omega) ?_
                                    clear ev2978 ez2977
                                    refine sf_aload rfl ?_
                                    refine sf_iload rfl ?_
                                    refine sf_iconst sf_c2 (fun z2979 ez2979 => ?_)
                                    refine sf_iadd (by omega) (fun v2980 ev2980 => ?_)
                                    refine sf_sldk (x := x4) (k := 2) (by omega) (by omega) (by omega) ?_
                                    clear ev2980 ez2979
                                    refine sf_aload rfl ?_
                                    refine sf_iload rfl ?_
                                    refine sf_iconst sf_c3 (fun z2981 ez2981 => ?_)
                                    refine sf_iadd (by omega) (fun v2982 ev2982 => ?_)
                                    refine sf_sldk (x := x4) (k := 3) (by omega) (by omega) (by omega) ?_
                                    clear ev2982 ez2981
                                    refine sf_callv4 rfl (by omega) (by omega) ?_
                                    refine sf_rv Iw2890 rfl ?_
                                    refine sc_M_charge Iw2890  (fun w2983 Iw2983 tw2983 q2984_0 => ?_)
                                    rw [c2964] at q2984_0
                                    rw [c2901] at q2984_0
                                    have c2985 := sf_mf tw2983 (p := 1) (j := 0) rfl
                                    have c2986 := sf_mf tw2983 (p := 71) (j := 1) rfl
                                    have c2987 := sf_mf tw2983 (p := 1) (j := 5) rfl
                                    have c2988 := sf_mf tw2983 (p := 71) (j := 5) rfl
                                    have c2989 := sf_mf tw2983 (p := 13) (j := 1) rfl
                                    have c2990 := sf_mf tw2983 (p := 71) (j := 10) rfl
                                    have c2991 := sf_mf tw2983 (p := 21) (j := 1) rfl
                                    have c2992 := sf_mf tw2983 (p := 71) (j := 18) rfl
                                    have c2993 := sf_mf tw2983 (p := 35) (j := 0) rfl
                                    have c2994 := sf_mf tw2983 (p := 71) (j := 35) rfl
                                    have c2995 := sf_ma tw2983 (p := 3) rfl
                                    have c2996 := sf_ma tw2983 (p := 72) rfl
                                    have c2997 := sf_mg tw2983 (p := 10) rfl
                                    have c2998 := sf_ma tw2983 (p := 93) rfl
                                    have c2999 := sf_mL tw2983 (p := 130) rfl
                                    have c3000 := sf_ma tw2983 (p := 2) rfl
                                    have c3001 := sf_ma tw2983 (p := 6) rfl
                                    have c3002 := sf_ma tw2983 (p := 75) rfl
                                    have c3003 := sf_ma tw2983 (p := 7) rfl
                                    have c3004 := sf_ma tw2983 (p := 76) rfl
                                    have c3005 := sf_ma tw2983 (p := 8) rfl
                                    have c3006 := sf_ma tw2983 (p := 77) rfl
                                    have c3007 := sf_ma tw2983 (p := 9) rfl
                                    have c3008 := sf_ma tw2983 (p := 78) rfl
                                    have c3009 := sf_ma tw2983 (p := 14) rfl
                                    have c3010 := sf_ma tw2983 (p := 79) rfl
                                    have c3011 := sf_ma tw2983 (p := 15) rfl
                                    have c3012 := sf_ma tw2983 (p := 80) rfl
                                    have c3013 := sf_ma tw2983 (p := 16) rfl
                                    have c3014 := sf_ma tw2983 (p := 81) rfl
                                    have c3015 := sf_ma tw2983 (p := 17) rfl
                                    have c3016 := sf_ma tw2983 (p := 82) rfl
                                    have c3017 := sf_ma tw2983 (p := 18) rfl
                                    have c3018 := sf_ma tw2983 (p := 83) rfl
                                    have c3019 := sf_ma tw2983 (p := 19) rfl
                                    have c3020 := sf_ma tw2983 (p := 84) rfl
                                    have c3021 := sf_ma tw2983 (p := 20) rfl
                                    have c3022 := sf_ma tw2983 (p := 85) rfl
                                    have c3023 := sf_ma tw2983 (p := 24) rfl
                                    have c3024 := sf_ma tw2983 (p := 86) rfl
                                    have c3025 := sf_ma tw2983 (p := 25) rfl
                                    have c3026 := sf_ma tw2983 (p := 87) rfl
                                    have c3027 := sf_ma tw2983 (p := 23) rfl
                                    have c3028 := sf_ma tw2983 (p := 88) rfl
                                    have c3029 := sf_ma tw2983 (p := 26) rfl
                                    have c3030 := sf_ma tw2983 (p := 89) rfl
                                    have c3031 := sf_ma tw2983 (p := 27) rfl
                                    have c3032 := sf_ma tw2983 (p := 90) rfl
                                    have c3033 := sf_ma tw2983 (p := 36) rfl
                                    have c3034 := sf_ma tw2983 (p := 102) rfl
                                    have c3035 := sf_ma tw2983 (p := 37) rfl
                                    have c3036 := sf_ma tw2983 (p := 103) rfl
                                    have c3037 := sf_mf tw2983 (p := 60) (j := 0) rfl
                                    have c3038 := sf_ma tw2983 (p := 61) rfl
                                    have c3039 := sf_ma tw2983 (p := 62) rfl
                                    have c3040 := sf_ma tw2983 (p := 63) rfl
                                    have c3041 := sf_ma tw2983 (p := 65) rfl
                                    have c3042 := sf_ma tw2983 (p := 66) rfl
                                    have c3043 := sf_mf tw2983 (p := 71) (j := 56) rfl
                                    have c3044 := sf_ma tw2983 (p := 121) rfl
                                    have c3045 := sf_ma tw2983 (p := 122) rfl
                                    have c3046 := sf_ma tw2983 (p := 123) rfl
                                    have c3047 := sf_ma tw2983 (p := 125) rfl
                                    have c3048 := sf_ma tw2983 (p := 126) rfl
                                    have c3049 := sf_ma tw2983 (p := 38) rfl
                                    have c3050 := sf_ma tw2983 (p := 40) rfl
                                    have c3051 := sf_ma tw2983 (p := 41) rfl
                                    have c3052 := sf_ma tw2983 (p := 42) rfl
                                    have c3053 := sf_ma tw2983 (p := 43) rfl
                                    have c3054 := sf_ma tw2983 (p := 44) rfl
                                    have c3055 := sf_ma tw2983 (p := 47) rfl
                                    have c3056 := sf_ma tw2983 (p := 104) rfl
                                    have c3057 := sf_ma tw2983 (p := 106) rfl
                                    have c3058 := sf_ma tw2983 (p := 113) rfl
                                    have c3059 := sf_ma tw2983 (p := 107) rfl
                                    have c3060 := sf_ma tw2983 (p := 108) rfl
                                    have c3061 := sf_ma tw2983 (p := 110) rfl
                                    have c3062 := sf_ma tw2983 (p := 109) rfl
                                    have c3063 := sf_mf tw2983 (p := 71) (j := 41) rfl
                                    have c3064 := sf_ma tw2983 (p := 68) rfl
                                    have c3065 := sf_ma tw2983 (p := 69) rfl
                                    have c3066 := sf_ma tw2983 (p := 70) rfl
                                    have c3067 := sf_ma tw2983 (p := 127) rfl
                                    have c3068 := sf_ma tw2983 (p := 128) rfl
                                    have c3069 := sf_ma tw2983 (p := 129) rfl
                                    have G0 := q2984_0
                                    clear q2984_0
                                    have b12 := (sf_fb I_w (p := 71) (ci := 9) (j := 35) rfl rfl)
                                    have hda : 0 ≤ (xs (x4.toInt.toNat + 1)).toInt → (xs (x4.toInt.toNat + 1)).toInt < (sf_f w 71 35).toInt → (sf_a w 40 (xs (x4.toInt.toNat + 1)).toInt.toNat).toInt = (sf_a w 106 (xs (x4.toInt.toNat + 1)).toInt.toNat).toInt := fun h1 h2 => by rw [f_23.2.1 _ (by omega)]
                                    refine sf_aload rfl ?_
                                    refine sf_callv1 rfl (by omega) (by omega) ?_
                                    refine sf_rv Iw2983 rfl ?_
                                    refine sf_sp (L := [(0, .inl (.ref 71))]) rfl rfl ?_
                                    refine sf_aload rfl ?_
                                    refine sf_geti Iw2983 rfl rfl (fun v3070 lv3070 uv3070 ev3070 => ?_)
                                    refine sf_ireturn rfl rfl ?_
                                    refine sf_iload rfl ?_
                                    refine sf_f2_eq (fun h3071 => ?_) (fun h3071 => ?_)
                                    · show kt_W_law_1404 N xs K _ _ _ _ _
                                      refine sf_iinc (L' := [(5, .inl (.int v2889)), (0, .inl (.ref 100000)), (1, .inl (.ref 0)), (2, .inl (.ref 71)), (3, .inl (.ref 130))]) (x := x4) sf_c8 rfl rfl (by omega) (fun v3072 ev3072 => ?_)
                                      refine sf_can (L' := [(0, .inl (.ref 100000)), (1, .inl (.ref 0)), (2, .inl (.ref 71)), (3, .inl (.ref 130)), (4, .inl (.int v3072))]) rfl ?_
                                      exact ih _ _ _ _ Iw2983 (by omega) (by omega) (by omega) (by omega) (by rw [c2985, c2892]; rw [c2986, c2893]; rw [c2987, c2894]; rw [c2988, c2895]; rw [c2989, c2896]; rw [c2990, c2897]; rw [c2991, c2898]; rw [c2992, c2899]; rw [c2993, c2900]; rw [c2994, c2901]; omega) (by rw [c2995, c2902]; rw [c2996, c2903]; rw [c2986, c2893]; first | exact f_1 | exact hJ) (by rw [c2997, c2904]; rw [c2998, c2905]; first | exact f_2 | exact hK2) (by rw [c3000, c2907]; rw [c2996, c2903]; rw [c2986, c2893]; first | exact f_3 | exact hQ2) (by rw [c3001, c2908]; rw [c3002, c2909]; rw [c2988, c2895]; first | exact f_4 | exact hQ6) (by rw [c3003, c2910]; rw [c3004, c2911]; rw [c2988, c2895]; first | exact f_5 | exact hQ7) (by rw [c3005, c2912]; rw [c3006, c2913]; rw [c2988, c2895]; first | exact f_6 | exact hQ8) (by rw [c3007, c2914]; rw [c3008, c2915]; rw [c2988, c2895]; first | exact f_7 | exact hQ9) (by rw [c3009, c2916]; rw [c3010, c2917]; rw [c2990, c2897]; first | exact f_8 | exact hQ14) (by rw [c3011, c2918]; rw [c3012, c2919]; rw [c2990, c2897]; first | exact f_9 | exact hQ15) (by rw [c3013, c2920]; rw [c3014, c2921]; rw [c2990, c2897]; first | exact f_10 | exact hQ16) (by rw [c3015, c2922]; rw [c3016, c2923]; rw [c2990, c2897]; first | exact f_11 | exact hQ17) (by rw [c3017, c2924]; rw [c3018, c2925]; rw [c2990, c2897]; first | exact f_12 | exact hQ18) (by rw [c3019, c2926]; rw [c3020, c2927]; rw [c2990, c2897]; first | exact f_13 | exact hQ19) (by rw [c3021, c2928]; rw [c3022, c2929]; rw [c2990, c2897]; first | exact f_14 | exact hQ20) (by rw [c3023, c2930]; rw [c3024, c2931]; rw [c2992, c2899]; first | exact f_15 | exact hQ24) (by rw [c3025, c2932]; rw [c3026, c2933]; rw [c2992, c2899]; first | exact f_16 | exact hQ25) (by rw [c3027, c2934]; rw [c3028, c2935]; rw [c2992, c2899]; first | exact f_17 | exact hQ23) (by rw [c3029, c2936]; rw [c3030, c2937]; rw [c2992, c2899]; first | exact f_18 | exact hQ26) (by rw [c3031, c2938]; rw [c3032, c2939]; rw [c2992, c2899]; first | exact f_19 | exact hQ27) (by rw [c3033, c2940]; rw [c3034, c2941]; rw [c2994, c2901]; first | exact f_20 | exact hQ36) (by rw [c3035, c2942]; rw [c3036, c2943]; rw [c2994, c2901]; first | exact f_21 | exact hQ37) (by rw [c3037, c2944]; rw [c3043, c2950]; rw [c3038, c2945]; rw [c3039, c2946]; rw [c3040, c2947]; rw [c3041, c2948]; rw [c3042, c2949]; rw [c3044, c2951]; rw [c3045, c2952]; rw [c3046, c2953]; rw [c3047, c2954]; rw [c3048, c2955]; exact f_22) (by rw [c3049, c2956]; rw [c3056, c2963]; rw [c3050, c2957]; rw [c3057, c2964]; rw [c3052, c2959]; rw [c3059, c2966]; rw [c3053, c2960]; rw [c3060, c2967]; rw [c3055, c2962]; rw [c3062, c2969]; rw [c3054, c2961]; rw [c3061, c2968]; exact f_23) (by rw [c3050, c2957]; rw [c3049, c2956]; rw [c3051, c2958]; rw [c3058, c2965]; exact f_24) (by rw [c3034, c2941]; rw [c3036, c2943]; rw [c3057, c2964]; rw [c2994, c2901]; rw [c3063, c2970]; exact f_25) (by rw [c3057, c2964]; rw [c2994, c2901]; exact f_26) (by rw [c3064, c2971]; rw [c3067, c2974]; rw [c3065, c2972]; rw [c3068, c2975]; rw [c3066, c2973]; rw [c3069, c2976]; exact f_27) (by omega)
                                    · refine sf_iconst sf_c0 (fun z3073 ez3073 => ?_)
                                      exact sf_lend (by omega) (by omega) (by omega)
                                  · clear h2882
                                    refine sf_sw1 sf_c15 (fun h3074 => ?_) (fun h3074 => ?_)
                                    · refine sf_aload rfl ?_
                                      refine sf_aload rfl ?_
                                      refine sf_iload rfl ?_
                                      refine sf_iconst sf_c1 (fun z3075 ez3075 => ?_)
                                      refine sf_iadd (by omega) (fun v3076 ev3076 => ?_)
                                      refine sf_sldk (x := x4) (k := 1) (by omega) (by omega) (by omega) ?_
                                      clear ev3076 ez3075
                                      refine sf_aload rfl ?_
                                      refine sf_iload rfl ?_
                                      refine sf_iconst sf_c2 (fun z3077 ez3077 => ?_)
                                      refine sf_iadd (by omega) (fun v3078 ev3078 => ?_)
                                      refine sf_sldk (x := x4) (k := 2) (by omega) (by omega) (by omega) ?_
                                      clear ev3078 ez3077
                                      refine sf_aload rfl ?_
                                      refine sf_iload rfl ?_
                                      refine sf_iconst sf_c3 (fun z3079 ez3079 => ?_)
                                      refine sf_iadd (by omega) (fun v3080 ev3080 => ?_)
                                      refine sf_sldk (x := x4) (k := 3) (by omega) (by omega) (by omega) ?_
                                      clear ev3080 ez3079
                                      refine sf_aload rfl ?_
                                      refine sf_callv5 rfl (by omega) (by omega) ?_
                                      refine sc_W_lineOf_0_130 I_w  (fun v3081 w3082 Iw3082 tw3082 lv3081 uv3081 => ?_)
                                      have c3084 := sf_mf tw3082 (p := 1) (j := 0) rfl
                                      have c3085 := sf_mf tw3082 (p := 71) (j := 1) rfl
                                      have c3086 := sf_mf tw3082 (p := 1) (j := 5) rfl
                                      have c3087 := sf_mf tw3082 (p := 71) (j := 5) rfl
                                      have c3088 := sf_mf tw3082 (p := 13) (j := 1) rfl
                                      have c3089 := sf_mf tw3082 (p := 71) (j := 10) rfl
                                      have c3090 := sf_mf tw3082 (p := 21) (j := 1) rfl
                                      have c3091 := sf_mf tw3082 (p := 71) (j := 18) rfl
                                      have c3092 := sf_mf tw3082 (p := 35) (j := 0) rfl
                                      have c3093 := sf_mf tw3082 (p := 71) (j := 35) rfl
                                      have c3094 := sf_ma tw3082 (p := 3) rfl
                                      have c3095 := sf_ma tw3082 (p := 72) rfl
                                      have c3096 := sf_mg tw3082 (p := 10) rfl
                                      have c3097 := sf_ma tw3082 (p := 93) rfl
                                      have c3098 := sf_ma tw3082 (p := 2) rfl
                                      have c3099 := sf_ma tw3082 (p := 6) rfl
                                      have c3100 := sf_ma tw3082 (p := 75) rfl
                                      have c3101 := sf_ma tw3082 (p := 7) rfl
                                      have c3102 := sf_ma tw3082 (p := 76) rfl
                                      have c3103 := sf_ma tw3082 (p := 8) rfl
                                      have c3104 := sf_ma tw3082 (p := 77) rfl
                                      have c3105 := sf_ma tw3082 (p := 9) rfl
                                      have c3106 := sf_ma tw3082 (p := 78) rfl
                                      have c3107 := sf_ma tw3082 (p := 14) rfl
                                      have c3108 := sf_ma tw3082 (p := 79) rfl
                                      have c3109 := sf_ma tw3082 (p := 15) rfl
                                      have c3110 := sf_ma tw3082 (p := 80) rfl
                                      have c3111 := sf_ma tw3082 (p := 16) rfl
                                      have c3112 := sf_ma tw3082 (p := 81) rfl
                                      have c3113 := sf_ma tw3082 (p := 17) rfl
                                      have c3114 := sf_ma tw3082 (p := 82) rfl
                                      have c3115 := sf_ma tw3082 (p := 18) rfl
                                      have c3116 := sf_ma tw3082 (p := 83) rfl
                                      have c3117 := sf_ma tw3082 (p := 19) rfl
                                      have c3118 := sf_ma tw3082 (p := 84) rfl
                                      have c3119 := sf_ma tw3082 (p := 20) rfl
                                      have c3120 := sf_ma tw3082 (p := 85) rfl
                                      have c3121 := sf_ma tw3082 (p := 24) rfl
                                      have c3122 := sf_ma tw3082 (p := 86) rfl
                                      have c3123 := sf_ma tw3082 (p := 25) rfl
                                      have c3124 := sf_ma tw3082 (p := 87) rfl
                                      have c3125 := sf_ma tw3082 (p := 23) rfl
                                      have c3126 := sf_ma tw3082 (p := 88) rfl
                                      have c3127 := sf_ma tw3082 (p := 26) rfl
                                      have c3128 := sf_ma tw3082 (p := 89) rfl
                                      have c3129 := sf_ma tw3082 (p := 27) rfl
                                      have c3130 := sf_ma tw3082 (p := 90) rfl
                                      have c3131 := sf_ma tw3082 (p := 36) rfl
                                      have c3132 := sf_ma tw3082 (p := 102) rfl
                                      have c3133 := sf_ma tw3082 (p := 37) rfl
                                      have c3134 := sf_ma tw3082 (p := 103) rfl
                                      have c3135 := sf_mf tw3082 (p := 60) (j := 0) rfl
                                      have c3136 := sf_ma tw3082 (p := 61) rfl
                                      have c3137 := sf_ma tw3082 (p := 62) rfl
                                      have c3138 := sf_ma tw3082 (p := 63) rfl
                                      have c3139 := sf_ma tw3082 (p := 65) rfl
                                      have c3140 := sf_ma tw3082 (p := 66) rfl
                                      have c3141 := sf_mf tw3082 (p := 71) (j := 56) rfl
                                      have c3142 := sf_ma tw3082 (p := 121) rfl
                                      have c3143 := sf_ma tw3082 (p := 122) rfl
                                      have c3144 := sf_ma tw3082 (p := 123) rfl
                                      have c3145 := sf_ma tw3082 (p := 125) rfl
                                      have c3146 := sf_ma tw3082 (p := 126) rfl
                                      have c3147 := sf_ma tw3082 (p := 38) rfl
                                      have c3148 := sf_ma tw3082 (p := 40) rfl
                                      have c3149 := sf_ma tw3082 (p := 41) rfl
                                      have c3150 := sf_ma tw3082 (p := 42) rfl
                                      have c3151 := sf_ma tw3082 (p := 43) rfl
                                      have c3152 := sf_ma tw3082 (p := 44) rfl
                                      have c3153 := sf_ma tw3082 (p := 47) rfl
                                      have c3154 := sf_ma tw3082 (p := 104) rfl
                                      have c3155 := sf_ma tw3082 (p := 106) rfl
                                      have c3156 := sf_ma tw3082 (p := 113) rfl
                                      have c3157 := sf_ma tw3082 (p := 107) rfl
                                      have c3158 := sf_ma tw3082 (p := 108) rfl
                                      have c3159 := sf_ma tw3082 (p := 110) rfl
                                      have c3160 := sf_ma tw3082 (p := 109) rfl
                                      have c3161 := sf_mf tw3082 (p := 71) (j := 41) rfl
                                      have c3162 := sf_ma tw3082 (p := 68) rfl
                                      have c3163 := sf_ma tw3082 (p := 69) rfl
                                      have c3164 := sf_ma tw3082 (p := 70) rfl
                                      have c3165 := sf_ma tw3082 (p := 127) rfl
                                      have c3166 := sf_ma tw3082 (p := 128) rfl
                                      have c3167 := sf_ma tw3082 (p := 129) rfl
                                      refine sf_istore (L' := [(0, .inl (.ref 100000)), (1, .inl (.ref 0)), (2, .inl (.ref 71)), (3, .inl (.ref 130)), (4, .inl (.int x4))]) rfl ?_
                                      refine sf_aload rfl ?_
                                      refine sf_aload rfl ?_
                                      refine sf_iload rfl ?_
                                      refine sf_iconst sf_c1 (fun z3168 ez3168 => ?_)
                                      refine sf_iadd (by omega) (fun v3169 ev3169 => ?_)
                                      refine sf_sldk (x := x4) (k := 1) (by omega) (by omega) (by omega) ?_
                                      clear ev3169 ez3168
                                      refine sf_aload rfl ?_
                                      refine sf_iload rfl ?_
                                      refine sf_iconst sf_c2 (fun z3170 ez3170 => ?_)
                                      refine sf_iadd (by omega) (fun v3171 ev3171 => ?_)
                                      refine sf_sldk (x := x4) (k := 2) (by omega) (by omega) (by omega) ?_
                                      clear ev3171 ez3170
                                      refine sf_aload rfl ?_
                                      refine sf_iload rfl ?_
                                      refine sf_iconst sf_c3 (fun z3172 ez3172 => ?_)
                                      refine sf_iadd (by omega) (fun v3173 ev3173 => ?_)
                                      refine sf_sldk (x := x4) (k := 3) (by omega) (by omega) (by omega) ?_
                                      clear ev3173 ez3172
                                      refine sf_callv4 rfl (by omega) (by omega) ?_
                                      refine sf_rv Iw3082 rfl ?_
                                      refine sc_M_lineOf Iw3082  (fun v3174 w3175 Iw3175 tw3175 => ?_)
                                      have c3177 := sf_mf tw3175 (p := 1) (j := 0) rfl
                                      have c3178 := sf_mf tw3175 (p := 71) (j := 1) rfl
                                      have c3179 := sf_mf tw3175 (p := 1) (j := 5) rfl
                                      have c3180 := sf_mf tw3175 (p := 71) (j := 5) rfl
                                      have c3181 := sf_mf tw3175 (p := 13) (j := 1) rfl
                                      have c3182 := sf_mf tw3175 (p := 71) (j := 10) rfl
                                      have c3183 := sf_mf tw3175 (p := 21) (j := 1) rfl
                                      have c3184 := sf_mf tw3175 (p := 71) (j := 18) rfl
                                      have c3185 := sf_mf tw3175 (p := 35) (j := 0) rfl
                                      have c3186 := sf_mf tw3175 (p := 71) (j := 35) rfl
                                      have c3187 := sf_ma tw3175 (p := 3) rfl
                                      have c3188 := sf_ma tw3175 (p := 72) rfl
                                      have c3189 := sf_mg tw3175 (p := 10) rfl
                                      have c3190 := sf_ma tw3175 (p := 93) rfl
                                      have c3191 := sf_mL tw3175 (p := 130) rfl
                                      have c3192 := sf_ma tw3175 (p := 2) rfl
                                      have c3193 := sf_ma tw3175 (p := 6) rfl
                                      have c3194 := sf_ma tw3175 (p := 75) rfl
                                      have c3195 := sf_ma tw3175 (p := 7) rfl
                                      have c3196 := sf_ma tw3175 (p := 76) rfl
                                      have c3197 := sf_ma tw3175 (p := 8) rfl
                                      have c3198 := sf_ma tw3175 (p := 77) rfl
                                      have c3199 := sf_ma tw3175 (p := 9) rfl
                                      have c3200 := sf_ma tw3175 (p := 78) rfl
                                      have c3201 := sf_ma tw3175 (p := 14) rfl
                                      have c3202 := sf_ma tw3175 (p := 79) rfl
                                      have c3203 := sf_ma tw3175 (p := 15) rfl
                                      have c3204 := sf_ma tw3175 (p := 80) rfl
                                      have c3205 := sf_ma tw3175 (p := 16) rfl
                                      have c3206 := sf_ma tw3175 (p := 81) rfl
                                      have c3207 := sf_ma tw3175 (p := 17) rfl
                                      have c3208 := sf_ma tw3175 (p := 82) rfl
                                      have c3209 := sf_ma tw3175 (p := 18) rfl
                                      have c3210 := sf_ma tw3175 (p := 83) rfl
                                      have c3211 := sf_ma tw3175 (p := 19) rfl
                                      have c3212 := sf_ma tw3175 (p := 84) rfl
                                      have c3213 := sf_ma tw3175 (p := 20) rfl
                                      have c3214 := sf_ma tw3175 (p := 85) rfl
                                      have c3215 := sf_ma tw3175 (p := 24) rfl
                                      have c3216 := sf_ma tw3175 (p := 86) rfl
                                      have c3217 := sf_ma tw3175 (p := 25) rfl
                                      have c3218 := sf_ma tw3175 (p := 87) rfl
                                      have c3219 := sf_ma tw3175 (p := 23) rfl
                                      have c3220 := sf_ma tw3175 (p := 88) rfl
                                      have c3221 := sf_ma tw3175 (p := 26) rfl
                                      have c3222 := sf_ma tw3175 (p := 89) rfl
                                      have c3223 := sf_ma tw3175 (p := 27) rfl
                                      have c3224 := sf_ma tw3175 (p := 90) rfl
                                      have c3225 := sf_ma tw3175 (p := 36) rfl
                                      have c3226 := sf_ma tw3175 (p := 102) rfl
                                      have c3227 := sf_ma tw3175 (p := 37) rfl
                                      have c3228 := sf_ma tw3175 (p := 103) rfl
                                      have c3229 := sf_mf tw3175 (p := 60) (j := 0) rfl
                                      have c3230 := sf_ma tw3175 (p := 61) rfl
                                      have c3231 := sf_ma tw3175 (p := 62) rfl
                                      have c3232 := sf_ma tw3175 (p := 63) rfl
                                      have c3233 := sf_ma tw3175 (p := 65) rfl
                                      have c3234 := sf_ma tw3175 (p := 66) rfl
                                      have c3235 := sf_mf tw3175 (p := 71) (j := 56) rfl
                                      have c3236 := sf_ma tw3175 (p := 121) rfl
                                      have c3237 := sf_ma tw3175 (p := 122) rfl
                                      have c3238 := sf_ma tw3175 (p := 123) rfl
                                      have c3239 := sf_ma tw3175 (p := 125) rfl
                                      have c3240 := sf_ma tw3175 (p := 126) rfl
                                      have c3241 := sf_ma tw3175 (p := 38) rfl
                                      have c3242 := sf_ma tw3175 (p := 40) rfl
                                      have c3243 := sf_ma tw3175 (p := 41) rfl
                                      have c3244 := sf_ma tw3175 (p := 42) rfl
                                      have c3245 := sf_ma tw3175 (p := 43) rfl
                                      have c3246 := sf_ma tw3175 (p := 44) rfl
                                      have c3247 := sf_ma tw3175 (p := 47) rfl
                                      have c3248 := sf_ma tw3175 (p := 104) rfl
                                      have c3249 := sf_ma tw3175 (p := 106) rfl
                                      have c3250 := sf_ma tw3175 (p := 113) rfl
                                      have c3251 := sf_ma tw3175 (p := 107) rfl
                                      have c3252 := sf_ma tw3175 (p := 108) rfl
                                      have c3253 := sf_ma tw3175 (p := 110) rfl
                                      have c3254 := sf_ma tw3175 (p := 109) rfl
                                      have c3255 := sf_mf tw3175 (p := 71) (j := 41) rfl
                                      have c3256 := sf_ma tw3175 (p := 68) rfl
                                      have c3257 := sf_ma tw3175 (p := 69) rfl
                                      have c3258 := sf_ma tw3175 (p := 70) rfl
                                      have c3259 := sf_ma tw3175 (p := 127) rfl
                                      have c3260 := sf_ma tw3175 (p := 128) rfl
                                      have c3261 := sf_ma tw3175 (p := 129) rfl
                                      refine sf_lstore (L' := [(5, .inl (.int v3081)), (0, .inl (.ref 100000)), (1, .inl (.ref 0)), (2, .inl (.ref 71)), (3, .inl (.ref 130)), (4, .inl (.int x4))]) rfl ?_
                                      show kt_W_law_1404 N xs K _ _ _ _ _
                                      refine sf_iinc (L' := [(6, .inl (.long v3174)), (5, .inl (.int v3081)), (0, .inl (.ref 100000)), (1, .inl (.ref 0)), (2, .inl (.ref 71)), (3, .inl (.ref 130))]) (x := x4) sf_c8 rfl rfl (by omega) (fun v3262 ev3262 => ?_)
                                      refine sf_can (L' := [(0, .inl (.ref 100000)), (1, .inl (.ref 0)), (2, .inl (.ref 71)), (3, .inl (.ref 130)), (4, .inl (.int v3262))]) rfl ?_
                                      exact ih _ _ _ _ Iw3175 (by omega) (by omega) (by omega) (by omega) (by rw [c3177, c3084]; rw [c3178, c3085]; rw [c3179, c3086]; rw [c3180, c3087]; rw [c3181, c3088]; rw [c3182, c3089]; rw [c3183, c3090]; rw [c3184, c3091]; rw [c3185, c3092]; rw [c3186, c3093]; omega) (by rw [c3187, c3094]; rw [c3188, c3095]; rw [c3178, c3085]; first | exact f_1 | exact hJ) (by rw [c3189, c3096]; rw [c3190, c3097]; first | exact f_2 | exact hK2) (by rw [c3192, c3098]; rw [c3188, c3095]; rw [c3178, c3085]; first | exact f_3 | exact hQ2) (by rw [c3193, c3099]; rw [c3194, c3100]; rw [c3180, c3087]; first | exact f_4 | exact hQ6) (by rw [c3195, c3101]; rw [c3196, c3102]; rw [c3180, c3087]; first | exact f_5 | exact hQ7) (by rw [c3197, c3103]; rw [c3198, c3104]; rw [c3180, c3087]; first | exact f_6 | exact hQ8) (by rw [c3199, c3105]; rw [c3200, c3106]; rw [c3180, c3087]; first | exact f_7 | exact hQ9) (by rw [c3201, c3107]; rw [c3202, c3108]; rw [c3182, c3089]; first | exact f_8 | exact hQ14) (by rw [c3203, c3109]; rw [c3204, c3110]; rw [c3182, c3089]; first | exact f_9 | exact hQ15) (by rw [c3205, c3111]; rw [c3206, c3112]; rw [c3182, c3089]; first | exact f_10 | exact hQ16) (by rw [c3207, c3113]; rw [c3208, c3114]; rw [c3182, c3089]; first | exact f_11 | exact hQ17) (by rw [c3209, c3115]; rw [c3210, c3116]; rw [c3182, c3089]; first | exact f_12 | exact hQ18) (by rw [c3211, c3117]; rw [c3212, c3118]; rw [c3182, c3089]; first | exact f_13 | exact hQ19) (by rw [c3213, c3119]; rw [c3214, c3120]; rw [c3182, c3089]; first | exact f_14 | exact hQ20) (by rw [c3215, c3121]; rw [c3216, c3122]; rw [c3184, c3091]; first | exact f_15 | exact hQ24) (by rw [c3217, c3123]; rw [c3218, c3124]; rw [c3184, c3091]; first | exact f_16 | exact hQ25) (by rw [c3219, c3125]; rw [c3220, c3126]; rw [c3184, c3091]; first | exact f_17 | exact hQ23) (by rw [c3221, c3127]; rw [c3222, c3128]; rw [c3184, c3091]; first | exact f_18 | exact hQ26) (by rw [c3223, c3129]; rw [c3224, c3130]; rw [c3184, c3091]; first | exact f_19 | exact hQ27) (by rw [c3225, c3131]; rw [c3226, c3132]; rw [c3186, c3093]; first | exact f_20 | exact hQ36) (by rw [c3227, c3133]; rw [c3228, c3134]; rw [c3186, c3093]; first | exact f_21 | exact hQ37) (by rw [c3229, c3135]; rw [c3235, c3141]; rw [c3230, c3136]; rw [c3231, c3137]; rw [c3232, c3138]; rw [c3233, c3139]; rw [c3234, c3140]; rw [c3236, c3142]; rw [c3237, c3143]; rw [c3238, c3144]; rw [c3239, c3145]; rw [c3240, c3146]; exact f_22) (by rw [c3241, c3147]; rw [c3248, c3154]; rw [c3242, c3148]; rw [c3249, c3155]; rw [c3244, c3150]; rw [c3251, c3157]; rw [c3245, c3151]; rw [c3252, c3158]; rw [c3247, c3153]; rw [c3254, c3160]; rw [c3246, c3152]; rw [c3253, c3159]; exact f_23) (by rw [c3242, c3148]; rw [c3241, c3147]; rw [c3243, c3149]; rw [c3250, c3156]; exact f_24) (by rw [c3226, c3132]; rw [c3228, c3134]; rw [c3249, c3155]; rw [c3186, c3093]; rw [c3255, c3161]; exact f_25) (by rw [c3249, c3155]; rw [c3186, c3093]; exact f_26) (by rw [c3256, c3162]; rw [c3259, c3165]; rw [c3257, c3163]; rw [c3260, c3166]; rw [c3258, c3164]; rw [c3261, c3167]; exact f_27) (by omega)
                                    · clear h3074
                                      refine sf_sw1 sf_c16 (fun h3263 => ?_) (fun h3263 => ?_)
                                      · refine sf_aload rfl ?_
                                        refine sf_aload rfl ?_
                                        refine sf_iload rfl ?_
                                        refine sf_iconst sf_c1 (fun z3264 ez3264 => ?_)
                                        refine sf_iadd (by omega) (fun v3265 ev3265 => ?_)
                                        refine sf_sldk (x := x4) (k := 1) (by omega) (by omega) (by omega) ?_
                                        clear ev3265 ez3264
                                        refine sf_aload rfl ?_
                                        refine sf_callv3 rfl (by omega) (by omega) ?_
                                        refine sc_W_accept_0_130 I_w (by exact sf_JQ f_1 f_3 (by omega)) (fun v3266 w3267 Iw3267 tw3267 lv3266 uv3266 q3268_0 q3268_1 => ?_)
                                        have c3269 := sf_mf tw3267 (p := 1) (j := 0) rfl
                                        have c3270 := sf_mf tw3267 (p := 71) (j := 1) rfl
                                        have c3271 := sf_mf tw3267 (p := 1) (j := 5) rfl
                                        have c3272 := sf_mf tw3267 (p := 71) (j := 5) rfl
                                        have c3273 := sf_mf tw3267 (p := 13) (j := 1) rfl
                                        have c3274 := sf_mf tw3267 (p := 71) (j := 10) rfl
                                        have c3275 := sf_mf tw3267 (p := 21) (j := 1) rfl
                                        have c3276 := sf_mf tw3267 (p := 71) (j := 18) rfl
                                        have c3277 := sf_mf tw3267 (p := 35) (j := 0) rfl
                                        have c3278 := sf_mf tw3267 (p := 71) (j := 35) rfl
                                        have c3279 := sf_ma tw3267 (p := 3) rfl
                                        have c3280 := sf_ma tw3267 (p := 72) rfl
                                        have c3281 := sf_mg tw3267 (p := 10) rfl
                                        have c3282 := sf_ma tw3267 (p := 93) rfl
                                        have c3283 := sf_ma tw3267 (p := 2) rfl
                                        have c3284 := sf_ma tw3267 (p := 6) rfl
                                        have c3285 := sf_ma tw3267 (p := 75) rfl
                                        have c3286 := sf_ma tw3267 (p := 7) rfl
                                        have c3287 := sf_ma tw3267 (p := 76) rfl
                                        have c3288 := sf_ma tw3267 (p := 8) rfl
                                        have c3289 := sf_ma tw3267 (p := 77) rfl
                                        have c3290 := sf_ma tw3267 (p := 9) rfl
                                        have c3291 := sf_ma tw3267 (p := 78) rfl
                                        have c3292 := sf_ma tw3267 (p := 14) rfl
                                        have c3293 := sf_ma tw3267 (p := 79) rfl
                                        have c3294 := sf_ma tw3267 (p := 15) rfl
                                        have c3295 := sf_ma tw3267 (p := 80) rfl
                                        have c3296 := sf_ma tw3267 (p := 16) rfl
                                        have c3297 := sf_ma tw3267 (p := 81) rfl
                                        have c3298 := sf_ma tw3267 (p := 17) rfl
                                        have c3299 := sf_ma tw3267 (p := 82) rfl
                                        have c3300 := sf_ma tw3267 (p := 18) rfl
                                        have c3301 := sf_ma tw3267 (p := 83) rfl
                                        have c3302 := sf_ma tw3267 (p := 19) rfl
                                        have c3303 := sf_ma tw3267 (p := 84) rfl
                                        have c3304 := sf_ma tw3267 (p := 20) rfl
                                        have c3305 := sf_ma tw3267 (p := 85) rfl
                                        have c3306 := sf_ma tw3267 (p := 24) rfl
                                        have c3307 := sf_ma tw3267 (p := 86) rfl
                                        have c3308 := sf_ma tw3267 (p := 25) rfl
                                        have c3309 := sf_ma tw3267 (p := 87) rfl
                                        have c3310 := sf_ma tw3267 (p := 23) rfl
                                        have c3311 := sf_ma tw3267 (p := 88) rfl
                                        have c3312 := sf_ma tw3267 (p := 26) rfl
                                        have c3313 := sf_ma tw3267 (p := 89) rfl
                                        have c3314 := sf_ma tw3267 (p := 27) rfl
                                        have c3315 := sf_ma tw3267 (p := 90) rfl
                                        have c3316 := sf_ma tw3267 (p := 36) rfl
                                        have c3317 := sf_ma tw3267 (p := 102) rfl
                                        have c3318 := sf_ma tw3267 (p := 37) rfl
                                        have c3319 := sf_ma tw3267 (p := 103) rfl
                                        have c3320 := sf_ma tw3267 (p := 63) rfl
                                        have c3321 := sf_mf tw3267 (p := 71) (j := 56) rfl
                                        have c3322 := sf_ma tw3267 (p := 121) rfl
                                        have c3323 := sf_ma tw3267 (p := 122) rfl
                                        have c3324 := sf_ma tw3267 (p := 123) rfl
                                        have c3325 := sf_ma tw3267 (p := 125) rfl
                                        have c3326 := sf_ma tw3267 (p := 126) rfl
                                        have c3327 := sf_ma tw3267 (p := 38) rfl
                                        have c3328 := sf_ma tw3267 (p := 42) rfl
                                        have c3329 := sf_ma tw3267 (p := 43) rfl
                                        have c3330 := sf_ma tw3267 (p := 44) rfl
                                        have c3331 := sf_ma tw3267 (p := 47) rfl
                                        have c3332 := sf_ma tw3267 (p := 104) rfl
                                        have c3333 := sf_ma tw3267 (p := 106) rfl
                                        have c3334 := sf_ma tw3267 (p := 113) rfl
                                        have c3335 := sf_ma tw3267 (p := 107) rfl
                                        have c3336 := sf_ma tw3267 (p := 108) rfl
                                        have c3337 := sf_ma tw3267 (p := 110) rfl
                                        have c3338 := sf_ma tw3267 (p := 109) rfl
                                        have c3339 := sf_mf tw3267 (p := 71) (j := 41) rfl
                                        have c3340 := sf_ma tw3267 (p := 68) rfl
                                        have c3341 := sf_ma tw3267 (p := 69) rfl
                                        have c3342 := sf_ma tw3267 (p := 70) rfl
                                        have c3343 := sf_ma tw3267 (p := 127) rfl
                                        have c3344 := sf_ma tw3267 (p := 128) rfl
                                        have c3345 := sf_ma tw3267 (p := 129) rfl
                                        have F0 := q3268_0
                                        have F1 := q3268_1
                                        clear q3268_0 q3268_1
                                        refine sf_istore (L' := [(0, .inl (.ref 100000)), (1, .inl (.ref 0)), (2, .inl (.ref 71)), (3, .inl (.ref 130)), (4, .inl (.int x4))]) rfl ?_
                                        refine sf_aload rfl ?_
                                        refine sf_aload rfl ?_
                                        refine sf_iload rfl ?_
                                        refine sf_iconst sf_c1 (fun z3346 ez3346 => ?_)
                                        refine sf_iadd (by omega) (fun v3347 ev3347 => ?_)
                                        refine sf_sldk (x := x4) (k := 1) (by omega) (by omega) (by omega) ?_
                                        clear ev3347 ez3346
                                        refine sf_callv2 rfl (by omega) (by omega) ?_
                                        refine sf_rv Iw3267 rfl ?_
                                        refine sc_M_accept Iw3267 (by rw [c3279]; rw [c3280]; rw [c3270]; exact f_1) (fun v3348 w3349 Iw3349 tw3349 q3350_0 q3350_1 => ?_)
                                        rw [c3279] at q3350_0
                                        rw [c3280] at q3350_0
                                        rw [c3285] at q3350_0
                                        rw [c3287] at q3350_0
                                        rw [c3289] at q3350_0
                                        rw [c3291] at q3350_0
                                        rw [c3293] at q3350_0
                                        rw [c3295] at q3350_0
                                        rw [c3303] at q3350_0
                                        rw [c3305] at q3350_0
                                        rw [c3282] at q3350_0
                                        rw [c3317] at q3350_0
                                        rw [c3319] at q3350_0
                                        rw [c3332] at q3350_0
                                        rw [c3333] at q3350_0
                                        rw [c3335] at q3350_0
                                        rw [c3336] at q3350_0
                                        rw [c3270] at q3350_0
                                        rw [c3272] at q3350_0
                                        rw [c3274] at q3350_0
                                        rw [c3278] at q3350_0
                                        rw [c3339] at q3350_0
                                        rw [c3321] at q3350_0
                                        rw [c3332] at q3350_1
                                        rw [c3333] at q3350_1
                                        rw [c3335] at q3350_1
                                        rw [c3338] at q3350_1
                                        rw [c3337] at q3350_1
                                        rw [c3334] at q3350_1
                                        rw [c3322] at q3350_1
                                        rw [c3323] at q3350_1
                                        rw [c3325] at q3350_1
                                        rw [c3326] at q3350_1
                                        rw [c3339] at q3350_1
                                        rw [c3321] at q3350_1
                                        have c3351 := sf_mf tw3349 (p := 1) (j := 0) rfl
                                        have c3352 := sf_mf tw3349 (p := 71) (j := 1) rfl
                                        have c3353 := sf_mf tw3349 (p := 1) (j := 5) rfl
                                        have c3354 := sf_mf tw3349 (p := 71) (j := 5) rfl
                                        have c3355 := sf_mf tw3349 (p := 13) (j := 1) rfl
                                        have c3356 := sf_mf tw3349 (p := 71) (j := 10) rfl
                                        have c3357 := sf_mf tw3349 (p := 21) (j := 1) rfl
                                        have c3358 := sf_mf tw3349 (p := 71) (j := 18) rfl
                                        have c3359 := sf_mf tw3349 (p := 35) (j := 0) rfl
                                        have c3360 := sf_mf tw3349 (p := 71) (j := 35) rfl
                                        have c3361 := sf_ma tw3349 (p := 3) rfl
                                        have c3362 := sf_ma tw3349 (p := 72) rfl
                                        have c3363 := sf_mg tw3349 (p := 10) rfl
                                        have c3364 := sf_ma tw3349 (p := 93) rfl
                                        have c3365 := sf_mL tw3349 (p := 130) rfl
                                        have c3366 := sf_ma tw3349 (p := 2) rfl
                                        have c3367 := sf_ma tw3349 (p := 6) rfl
                                        have c3368 := sf_ma tw3349 (p := 75) rfl
                                        have c3369 := sf_ma tw3349 (p := 7) rfl
                                        have c3370 := sf_ma tw3349 (p := 76) rfl
                                        have c3371 := sf_ma tw3349 (p := 8) rfl
                                        have c3372 := sf_ma tw3349 (p := 77) rfl
                                        have c3373 := sf_ma tw3349 (p := 9) rfl
                                        have c3374 := sf_ma tw3349 (p := 78) rfl
                                        have c3375 := sf_ma tw3349 (p := 14) rfl
                                        have c3376 := sf_ma tw3349 (p := 79) rfl
                                        have c3377 := sf_ma tw3349 (p := 15) rfl
                                        have c3378 := sf_ma tw3349 (p := 80) rfl
                                        have c3379 := sf_ma tw3349 (p := 16) rfl
                                        have c3380 := sf_ma tw3349 (p := 81) rfl
                                        have c3381 := sf_ma tw3349 (p := 17) rfl
                                        have c3382 := sf_ma tw3349 (p := 82) rfl
                                        have c3383 := sf_ma tw3349 (p := 18) rfl
                                        have c3384 := sf_ma tw3349 (p := 83) rfl
                                        have c3385 := sf_ma tw3349 (p := 19) rfl
                                        have c3386 := sf_ma tw3349 (p := 84) rfl
                                        have c3387 := sf_ma tw3349 (p := 20) rfl
                                        have c3388 := sf_ma tw3349 (p := 85) rfl
                                        have c3389 := sf_ma tw3349 (p := 24) rfl
                                        have c3390 := sf_ma tw3349 (p := 86) rfl
                                        have c3391 := sf_ma tw3349 (p := 25) rfl
                                        have c3392 := sf_ma tw3349 (p := 87) rfl
                                        have c3393 := sf_ma tw3349 (p := 23) rfl
                                        have c3394 := sf_ma tw3349 (p := 88) rfl
                                        have c3395 := sf_ma tw3349 (p := 26) rfl
                                        have c3396 := sf_ma tw3349 (p := 89) rfl
                                        have c3397 := sf_ma tw3349 (p := 27) rfl
                                        have c3398 := sf_ma tw3349 (p := 90) rfl
                                        have c3399 := sf_ma tw3349 (p := 36) rfl
                                        have c3400 := sf_ma tw3349 (p := 102) rfl
                                        have c3401 := sf_ma tw3349 (p := 37) rfl
                                        have c3402 := sf_ma tw3349 (p := 103) rfl
                                        have c3403 := sf_mf tw3349 (p := 60) (j := 0) rfl
                                        have c3404 := sf_ma tw3349 (p := 61) rfl
                                        have c3405 := sf_ma tw3349 (p := 62) rfl
                                        have c3406 := sf_ma tw3349 (p := 63) rfl
                                        have c3407 := sf_ma tw3349 (p := 65) rfl
                                        have c3408 := sf_ma tw3349 (p := 66) rfl
                                        have c3409 := sf_ma tw3349 (p := 123) rfl
                                        have c3410 := sf_ma tw3349 (p := 38) rfl
                                        have c3411 := sf_ma tw3349 (p := 40) rfl
                                        have c3412 := sf_ma tw3349 (p := 41) rfl
                                        have c3413 := sf_ma tw3349 (p := 42) rfl
                                        have c3414 := sf_ma tw3349 (p := 43) rfl
                                        have c3415 := sf_ma tw3349 (p := 44) rfl
                                        have c3416 := sf_ma tw3349 (p := 47) rfl
                                        have c3417 := sf_ma tw3349 (p := 104) rfl
                                        have c3418 := sf_ma tw3349 (p := 107) rfl
                                        have c3419 := sf_ma tw3349 (p := 108) rfl
                                        have c3420 := sf_ma tw3349 (p := 110) rfl
                                        have c3421 := sf_ma tw3349 (p := 109) rfl
                                        have c3422 := sf_ma tw3349 (p := 68) rfl
                                        have c3423 := sf_ma tw3349 (p := 69) rfl
                                        have c3424 := sf_ma tw3349 (p := 70) rfl
                                        have c3425 := sf_ma tw3349 (p := 127) rfl
                                        have c3426 := sf_ma tw3349 (p := 128) rfl
                                        have c3427 := sf_ma tw3349 (p := 129) rfl
                                        have G0 := q3350_0
                                        have G1 := q3350_1
                                        clear q3350_0 q3350_1
                                        have b12 := (sf_fb I_w (p := 71) (ci := 9) (j := 35) rfl rfl)
                                        have b40 := (sf_fb I_w (p := 71) (ci := 9) (j := 56) rfl rfl)
                                        have b24 := (sf_fb I_w (p := 71) (ci := 9) (j := 1) rfl rfl)
                                        have b4n := (sf_fb I_w (p := 71) (ci := 9) (j := 5) rfl rfl)
                                        have hda : 0 ≤ (xs (x4.toInt.toNat + 1)).toInt → (xs (x4.toInt.toNat + 1)).toInt < (sf_f w 71 35).toInt → (sf_a w 40 (xs (x4.toInt.toNat + 1)).toInt.toNat).toInt = (sf_a w 106 (xs (x4.toInt.toNat + 1)).toInt.toNat).toInt := fun h1 h2 => by rw [f_23.2.1 _ (by omega)]
                                        have hdl : 0 ≤ (xs (x4.toInt.toNat + 1)).toInt → (xs (x4.toInt.toNat + 1)).toInt < (sf_f w 71 35).toInt → (sf_a w 38 (xs (x4.toInt.toNat + 1)).toInt.toNat).toInt = (sf_a w 104 (xs (x4.toInt.toNat + 1)).toInt.toNat).toInt := fun h1 h2 => by rw [f_23.1 _ (by omega)]
                                        have hCA : 0 ≤ (xs (x4.toInt.toNat + 1)).toInt → (xs (x4.toInt.toNat + 1)).toInt < (sf_f w 71 35).toInt → ((sc_ok (sc_rc (sc_b (sf_a w 2) (sf_a w 6) (sf_a w 7) (sf_a w 8) (sf_a w 9) (sf_a w 3) (sp_ag (sf_g w 10)) (sf_f w 1 5).toInt (sf_f w 1 0).toInt) (sf_a w 2) (sf_a w 14) (sf_a w 15) (sf_a w 19) (sf_a w 20) (sf_f w 13 1).toInt (sf_a w 42) (sf_a w 43) (sf_a w 36 (xs (x4.toInt.toNat + 1)).toInt.toNat).toInt (4 * (xs (x4.toInt.toNat + 1)).toInt).toNat) (sf_a w 38 (xs (x4.toInt.toNat + 1)).toInt.toNat).toInt) ↔ (sc_ok (sc_rm (sc_b (sf_a w 72) (sf_a w 75) (sf_a w 76) (sf_a w 77) (sf_a w 78) (sf_a w 3) (sp_aa (sf_a w 93)) (sf_f w 71 5).toInt (sf_f w 71 1).toInt) (sf_a w 72) (sf_a w 79) (sf_a w 80) (sf_a w 84) (sf_a w 85) (sf_f w 71 10).toInt (sf_a w 107) (sf_a w 108) (sf_a w 102 (xs (x4.toInt.toNat + 1)).toInt.toNat).toInt (4 * (xs (x4.toInt.toNat + 1)).toInt).toNat) (sf_a w 104 (xs (x4.toInt.toNat + 1)).toInt.toNat).toInt)) := fun h1 h2 => sc_okE (hdl h1 h2) (fun k hk => by
                                          have h4 := (sf_arr I_w (p := 38) rfl).2.1 (xs (x4.toInt.toNat + 1)).toInt.toNat (by omega)
                                          have hr48 : (4 * (xs (x4.toInt.toNat + 1)).toInt).toNat + k < 48 := by omega
                                          have hgd := (sf_arr I_w (p := 42) rfl).2.1 ((4 * (xs (x4.toInt.toNat + 1)).toInt).toNat + k) hr48
                                          have hge := f_23.2.2.1 ((4 * (xs (x4.toInt.toNat + 1)).toInt).toNat + k) (by omega)
                                          refine sc_rE f_1 f_3 f_8 f_9 f_13 f_14 (by omega) (sc_bE f_1 f_3 f_4 f_5 f_6 f_7 (fun i hi => (sf_arr I_w (p := 77) rfl).2.1 i (by omega)) (fun j hj => congrArg Int32.toInt (f_2 _ j (by omega) hj)) (by omega) (by omega) (by rw [hge])) (sc_br (by omega)).2 (f_23.2.2.2.1 _ (by omega)) (by rw [f_20 _ (by omega)]))
                                        have hcc := f_22.1
                                        have hrc := sl_caE F0 G0 (by omega) (fun h9 => by rw [hda h9.1 (by omega)]) (fun h9 => sl_LE (by omega) f_20 f_21 f_23.2.1 (by omega) (by omega) f_25) (fun h9 => hCA h9.1 (by omega)) (fun h9 => by rw [hdl h9.1 (by omega), hcc])
                                        have hA := sl_ACCz (dz := (xs (x4.toInt.toNat + 1)).toInt) f_22 f_23 f_24 f_25 f_26 (by omega) (fun x hx => (sf_arr I_w (p := 38) rfl).2.1 x hx) (fun i hi => (sf_arr I_w (p := 44) rfl).2.1 i hi) hrc (fun h9 => by obtain ⟨k1, k2, k3, k4, k5⟩ := sl_ca0 G0 h9; exact ⟨k1.1, k1.2, by omega, k3, by omega⟩) F1 G1
                                        clear F0 G0 F1 G1 hCA
                                        obtain ⟨hRL, hRD, hRF, hRT, hRU⟩ := hA
                                        refine sf_lstore (L' := [(5, .inl (.int v3266)), (0, .inl (.ref 100000)), (1, .inl (.ref 0)), (2, .inl (.ref 71)), (3, .inl (.ref 130)), (4, .inl (.int x4))]) rfl ?_
                                        show kt_W_law_1404 N xs K _ _ _ _ _
                                        refine sf_iinc (L' := [(6, .inl (.long v3348)), (5, .inl (.int v3266)), (0, .inl (.ref 100000)), (1, .inl (.ref 0)), (2, .inl (.ref 71)), (3, .inl (.ref 130))]) (x := x4) sf_c8 rfl rfl (by omega) (fun v3428 ev3428 => ?_)
                                        refine sf_can (L' := [(0, .inl (.ref 100000)), (1, .inl (.ref 0)), (2, .inl (.ref 71)), (3, .inl (.ref 130)), (4, .inl (.int v3428))]) rfl ?_
                                        exact ih _ _ _ _ Iw3349 (by omega) (by omega) (by omega) (by omega) (by rw [c3351, c3269]; rw [c3352, c3270]; rw [c3353, c3271]; rw [c3354, c3272]; rw [c3355, c3273]; rw [c3356, c3274]; rw [c3357, c3275]; rw [c3358, c3276]; rw [c3359, c3277]; rw [c3360, c3278]; omega) (by rw [c3361, c3279]; rw [c3362, c3280]; rw [c3352, c3270]; first | exact f_1 | exact hJ) (by rw [c3363, c3281]; rw [c3364, c3282]; first | exact f_2 | exact hK2) (by rw [c3366, c3283]; rw [c3362, c3280]; rw [c3352, c3270]; first | exact f_3 | exact hQ2) (by rw [c3367, c3284]; rw [c3368, c3285]; rw [c3354, c3272]; first | exact f_4 | exact hQ6) (by rw [c3369, c3286]; rw [c3370, c3287]; rw [c3354, c3272]; first | exact f_5 | exact hQ7) (by rw [c3371, c3288]; rw [c3372, c3289]; rw [c3354, c3272]; first | exact f_6 | exact hQ8) (by rw [c3373, c3290]; rw [c3374, c3291]; rw [c3354, c3272]; first | exact f_7 | exact hQ9) (by rw [c3375, c3292]; rw [c3376, c3293]; rw [c3356, c3274]; first | exact f_8 | exact hQ14) (by rw [c3377, c3294]; rw [c3378, c3295]; rw [c3356, c3274]; first | exact f_9 | exact hQ15) (by rw [c3379, c3296]; rw [c3380, c3297]; rw [c3356, c3274]; first | exact f_10 | exact hQ16) (by rw [c3381, c3298]; rw [c3382, c3299]; rw [c3356, c3274]; first | exact f_11 | exact hQ17) (by rw [c3383, c3300]; rw [c3384, c3301]; rw [c3356, c3274]; first | exact f_12 | exact hQ18) (by rw [c3385, c3302]; rw [c3386, c3303]; rw [c3356, c3274]; first | exact f_13 | exact hQ19) (by rw [c3387, c3304]; rw [c3388, c3305]; rw [c3356, c3274]; first | exact f_14 | exact hQ20) (by rw [c3389, c3306]; rw [c3390, c3307]; rw [c3358, c3276]; first | exact f_15 | exact hQ24) (by rw [c3391, c3308]; rw [c3392, c3309]; rw [c3358, c3276]; first | exact f_16 | exact hQ25) (by rw [c3393, c3310]; rw [c3394, c3311]; rw [c3358, c3276]; first | exact f_17 | exact hQ23) (by rw [c3395, c3312]; rw [c3396, c3313]; rw [c3358, c3276]; first | exact f_18 | exact hQ26) (by rw [c3397, c3314]; rw [c3398, c3315]; rw [c3358, c3276]; first | exact f_19 | exact hQ27) (by rw [c3399, c3316]; rw [c3400, c3317]; rw [c3360, c3278]; first | exact f_20 | exact hQ36) (by rw [c3401, c3318]; rw [c3402, c3319]; rw [c3360, c3278]; first | exact f_21 | exact hQ37) (by rw [c3403]; rw [c3404]; rw [c3405]; rw [c3406, c3320]; rw [c3407]; rw [c3408]; rw [c3409, c3324]; exact hRL) (by rw [c3410, c3327]; rw [c3417, c3332]; rw [c3411]; rw [c3413, c3328]; rw [c3418, c3335]; rw [c3414, c3329]; rw [c3419, c3336]; rw [c3416, c3331]; rw [c3421, c3338]; rw [c3415, c3330]; rw [c3420, c3337]; exact hRD) (by rw [c3411]; rw [c3410, c3327]; rw [c3412]; exact hRF) (by rw [c3400, c3317]; rw [c3402, c3319]; rw [c3360, c3278]; exact hRT) (by rw [c3360, c3278]; exact hRU) (by rw [c3422, c3340]; rw [c3425, c3343]; rw [c3423, c3341]; rw [c3426, c3344]; rw [c3424, c3342]; rw [c3427, c3345]; exact f_27) (by omega)
                                      · clear h3263
                                        refine sf_sw1 sf_c17 (fun h3429 => ?_) (fun h3429 => ?_)
                                        · refine sf_aload rfl ?_
                                          refine sf_aload rfl ?_
                                          refine sf_iload rfl ?_
                                          refine sf_iconst sf_c1 (fun z3430 ez3430 => ?_)
                                          refine sf_iadd (by omega) (fun v3431 ev3431 => ?_)
                                          refine sf_sldk (x := x4) (k := 1) (by omega) (by omega) (by omega) ?_
                                          clear ev3431 ez3430
                                          refine sf_aload rfl ?_
                                          refine sf_iload rfl ?_
                                          refine sf_iconst sf_c2 (fun z3432 ez3432 => ?_)
                                          refine sf_iadd (by omega) (fun v3433 ev3433 => ?_)
                                          refine sf_sldk (x := x4) (k := 2) (by omega) (by omega) (by omega) ?_
                                          clear ev3433 ez3432
                                          refine sf_aload rfl ?_
                                          refine sf_iload rfl ?_
                                          refine sf_iconst sf_c3 (fun z3434 ez3434 => ?_)
                                          refine sf_iadd (by omega) (fun v3435 ev3435 => ?_)
                                          refine sf_sldk (x := x4) (k := 3) (by omega) (by omega) (by omega) ?_
                                          clear ev3435 ez3434
                                          refine sf_aload rfl ?_
                                          refine sf_iload rfl ?_
                                          refine sf_iconst sf_c4 (fun z3436 ez3436 => ?_)
                                          refine sf_iadd (by omega) (fun v3437 ev3437 => ?_)
                                          refine sf_sldk (x := x4) (k := 4) (by omega) (by omega) (by omega) ?_
                                          clear ev3437 ez3436
                                          refine sf_aload rfl ?_
                                          refine sf_callv6 rfl (by omega) (by omega) ?_
                                          refine sc_W_amend_0_130 I_w (by exact sf_JQ f_1 f_3 (by omega)) (fun v3438 w3439 Iw3439 tw3439 lv3438 uv3438 q3440_0 q3440_1 q3440_2 => ?_)
                                          have c3441 := sf_mf tw3439 (p := 1) (j := 0) rfl
                                          have c3442 := sf_mf tw3439 (p := 71) (j := 1) rfl
                                          have c3443 := sf_mf tw3439 (p := 1) (j := 5) rfl
                                          have c3444 := sf_mf tw3439 (p := 71) (j := 5) rfl
                                          have c3445 := sf_mf tw3439 (p := 13) (j := 1) rfl
                                          have c3446 := sf_mf tw3439 (p := 71) (j := 10) rfl
                                          have c3447 := sf_mf tw3439 (p := 21) (j := 1) rfl
                                          have c3448 := sf_mf tw3439 (p := 71) (j := 18) rfl
                                          have c3449 := sf_mf tw3439 (p := 35) (j := 0) rfl
                                          have c3450 := sf_mf tw3439 (p := 71) (j := 35) rfl
                                          have c3451 := sf_ma tw3439 (p := 3) rfl
                                          have c3452 := sf_ma tw3439 (p := 72) rfl
                                          have c3453 := sf_mg tw3439 (p := 10) rfl
                                          have c3454 := sf_ma tw3439 (p := 93) rfl
                                          have c3455 := sf_ma tw3439 (p := 2) rfl
                                          have c3456 := sf_ma tw3439 (p := 6) rfl
                                          have c3457 := sf_ma tw3439 (p := 75) rfl
                                          have c3458 := sf_ma tw3439 (p := 7) rfl
                                          have c3459 := sf_ma tw3439 (p := 76) rfl
                                          have c3460 := sf_ma tw3439 (p := 8) rfl
                                          have c3461 := sf_ma tw3439 (p := 77) rfl
                                          have c3462 := sf_ma tw3439 (p := 9) rfl
                                          have c3463 := sf_ma tw3439 (p := 78) rfl
                                          have c3464 := sf_ma tw3439 (p := 14) rfl
                                          have c3465 := sf_ma tw3439 (p := 79) rfl
                                          have c3466 := sf_ma tw3439 (p := 15) rfl
                                          have c3467 := sf_ma tw3439 (p := 80) rfl
                                          have c3468 := sf_ma tw3439 (p := 16) rfl
                                          have c3469 := sf_ma tw3439 (p := 81) rfl
                                          have c3470 := sf_ma tw3439 (p := 17) rfl
                                          have c3471 := sf_ma tw3439 (p := 82) rfl
                                          have c3472 := sf_ma tw3439 (p := 18) rfl
                                          have c3473 := sf_ma tw3439 (p := 83) rfl
                                          have c3474 := sf_ma tw3439 (p := 19) rfl
                                          have c3475 := sf_ma tw3439 (p := 84) rfl
                                          have c3476 := sf_ma tw3439 (p := 20) rfl
                                          have c3477 := sf_ma tw3439 (p := 85) rfl
                                          have c3478 := sf_ma tw3439 (p := 24) rfl
                                          have c3479 := sf_ma tw3439 (p := 86) rfl
                                          have c3480 := sf_ma tw3439 (p := 25) rfl
                                          have c3481 := sf_ma tw3439 (p := 87) rfl
                                          have c3482 := sf_ma tw3439 (p := 23) rfl
                                          have c3483 := sf_ma tw3439 (p := 88) rfl
                                          have c3484 := sf_ma tw3439 (p := 26) rfl
                                          have c3485 := sf_ma tw3439 (p := 89) rfl
                                          have c3486 := sf_ma tw3439 (p := 27) rfl
                                          have c3487 := sf_ma tw3439 (p := 90) rfl
                                          have c3488 := sf_ma tw3439 (p := 36) rfl
                                          have c3489 := sf_ma tw3439 (p := 102) rfl
                                          have c3490 := sf_ma tw3439 (p := 37) rfl
                                          have c3491 := sf_ma tw3439 (p := 103) rfl
                                          have c3492 := sf_mf tw3439 (p := 60) (j := 0) rfl
                                          have c3493 := sf_ma tw3439 (p := 61) rfl
                                          have c3494 := sf_ma tw3439 (p := 63) rfl
                                          have c3495 := sf_ma tw3439 (p := 65) rfl
                                          have c3496 := sf_ma tw3439 (p := 66) rfl
                                          have c3497 := sf_mf tw3439 (p := 71) (j := 56) rfl
                                          have c3498 := sf_ma tw3439 (p := 121) rfl
                                          have c3499 := sf_ma tw3439 (p := 122) rfl
                                          have c3500 := sf_ma tw3439 (p := 123) rfl
                                          have c3501 := sf_ma tw3439 (p := 125) rfl
                                          have c3502 := sf_ma tw3439 (p := 126) rfl
                                          have c3503 := sf_ma tw3439 (p := 38) rfl
                                          have c3504 := sf_ma tw3439 (p := 40) rfl
                                          have c3505 := sf_ma tw3439 (p := 41) rfl
                                          have c3506 := sf_ma tw3439 (p := 42) rfl
                                          have c3507 := sf_ma tw3439 (p := 43) rfl
                                          have c3508 := sf_ma tw3439 (p := 47) rfl
                                          have c3509 := sf_ma tw3439 (p := 104) rfl
                                          have c3510 := sf_ma tw3439 (p := 106) rfl
                                          have c3511 := sf_ma tw3439 (p := 113) rfl
                                          have c3512 := sf_ma tw3439 (p := 107) rfl
                                          have c3513 := sf_ma tw3439 (p := 108) rfl
                                          have c3514 := sf_ma tw3439 (p := 110) rfl
                                          have c3515 := sf_ma tw3439 (p := 109) rfl
                                          have c3516 := sf_mf tw3439 (p := 71) (j := 41) rfl
                                          have c3517 := sf_ma tw3439 (p := 68) rfl
                                          have c3518 := sf_ma tw3439 (p := 69) rfl
                                          have c3519 := sf_ma tw3439 (p := 70) rfl
                                          have c3520 := sf_ma tw3439 (p := 127) rfl
                                          have c3521 := sf_ma tw3439 (p := 128) rfl
                                          have c3522 := sf_ma tw3439 (p := 129) rfl
                                          have F0 := q3440_0
                                          have F1 := q3440_1
                                          have F2 := q3440_2
                                          clear q3440_0 q3440_1 q3440_2
                                          have I_b := Iw3439
                                          refine sf_istore (L' := [(0, .inl (.ref 100000)), (1, .inl (.ref 0)), (2, .inl (.ref 71)), (3, .inl (.ref 130)), (4, .inl (.int x4))]) rfl ?_
                                          refine sf_aload rfl ?_
                                          refine sf_aload rfl ?_
                                          refine sf_iload rfl ?_
                                          refine sf_iconst sf_c1 (fun z3523 ez3523 => ?_)
                                          refine sf_iadd (by omega) (fun v3524 ev3524 => ?_)
                                          refine sf_sldk (x := x4) (k := 1) (by omega) (by omega) (by omega) ?_
                                          clear ev3524 ez3523
                                          refine sf_aload rfl ?_
                                          refine sf_iload rfl ?_
                                          refine sf_iconst sf_c2 (fun z3525 ez3525 => ?_)
                                          refine sf_iadd (by omega) (fun v3526 ev3526 => ?_)
                                          refine sf_sldk (x := x4) (k := 2) (by omega) (by omega) (by omega) ?_
                                          clear ev3526 ez3525
                                          refine sf_aload rfl ?_
                                          refine sf_iload rfl ?_
                                          refine sf_iconst sf_c3 (fun z3527 ez3527 => ?_)
                                          refine sf_iadd (by omega) (fun v3528 ev3528 => ?_)
                                          refine sf_sldk (x := x4) (k := 3) (by omega) (by omega) (by omega) ?_
                                          clear ev3528 ez3527
                                          refine sf_aload rfl ?_
                                          refine sf_iload rfl ?_
                                          refine sf_iconst sf_c4 (fun z3529 ez3529 => ?_)
                                          refine sf_iadd (by omega) (fun v3530 ev3530 => ?_)
                                          refine sf_sldk (x := x4) (k := 4) (by omega) (by omega) (by omega) ?_
                                          clear ev3530 ez3529
                                          refine sf_callv5 rfl (by omega) (by omega) ?_
                                          refine sf_rv Iw3439 rfl ?_
                                          refine sc_M_amend Iw3439 (by rw [c3451]; rw [c3452]; rw [c3442]; exact f_1) (fun v3531 w3532 Iw3532 tw3532 q3533_0 q3533_1 q3533_2 => ?_)
                                          rw [c3451] at q3533_0
                                          rw [c3452] at q3533_0
                                          rw [c3457] at q3533_0
                                          rw [c3459] at q3533_0
                                          rw [c3461] at q3533_0
                                          rw [c3463] at q3533_0
                                          rw [c3465] at q3533_0
                                          rw [c3467] at q3533_0
                                          rw [c3475] at q3533_0
                                          rw [c3477] at q3533_0
                                          rw [c3454] at q3533_0
                                          rw [c3489] at q3533_0
                                          rw [c3509] at q3533_0
                                          rw [c3510] at q3533_0
                                          rw [c3512] at q3533_0
                                          rw [c3513] at q3533_0
                                          rw [c3511] at q3533_0
                                          rw [c3500] at q3533_0
                                          rw [c3442] at q3533_0
                                          rw [c3444] at q3533_0
                                          rw [c3446] at q3533_0
                                          rw [c3450] at q3533_0
                                          rw [c3514] at q3533_1
                                          rw [c3509] at q3533_2
                                          rw [c3511] at q3533_2
                                          rw [c3499] at q3533_2
                                          have c3534 := sf_mf tw3532 (p := 1) (j := 0) rfl
                                          have c3535 := sf_mf tw3532 (p := 71) (j := 1) rfl
                                          have c3536 := sf_mf tw3532 (p := 1) (j := 5) rfl
                                          have c3537 := sf_mf tw3532 (p := 71) (j := 5) rfl
                                          have c3538 := sf_mf tw3532 (p := 13) (j := 1) rfl
                                          have c3539 := sf_mf tw3532 (p := 71) (j := 10) rfl
                                          have c3540 := sf_mf tw3532 (p := 21) (j := 1) rfl
                                          have c3541 := sf_mf tw3532 (p := 71) (j := 18) rfl
                                          have c3542 := sf_mf tw3532 (p := 35) (j := 0) rfl
                                          have c3543 := sf_mf tw3532 (p := 71) (j := 35) rfl
                                          have c3544 := sf_ma tw3532 (p := 3) rfl
                                          have c3545 := sf_ma tw3532 (p := 72) rfl
                                          have c3546 := sf_mg tw3532 (p := 10) rfl
                                          have c3547 := sf_ma tw3532 (p := 93) rfl
                                          have c3548 := sf_mL tw3532 (p := 130) rfl
                                          have c3549 := sf_ma tw3532 (p := 2) rfl
                                          have c3550 := sf_ma tw3532 (p := 6) rfl
                                          have c3551 := sf_ma tw3532 (p := 75) rfl
                                          have c3552 := sf_ma tw3532 (p := 7) rfl
                                          have c3553 := sf_ma tw3532 (p := 76) rfl
                                          have c3554 := sf_ma tw3532 (p := 8) rfl
                                          have c3555 := sf_ma tw3532 (p := 77) rfl
                                          have c3556 := sf_ma tw3532 (p := 9) rfl
                                          have c3557 := sf_ma tw3532 (p := 78) rfl
                                          have c3558 := sf_ma tw3532 (p := 14) rfl
                                          have c3559 := sf_ma tw3532 (p := 79) rfl
                                          have c3560 := sf_ma tw3532 (p := 15) rfl
                                          have c3561 := sf_ma tw3532 (p := 80) rfl
                                          have c3562 := sf_ma tw3532 (p := 16) rfl
                                          have c3563 := sf_ma tw3532 (p := 81) rfl
                                          have c3564 := sf_ma tw3532 (p := 17) rfl
                                          have c3565 := sf_ma tw3532 (p := 82) rfl
                                          have c3566 := sf_ma tw3532 (p := 18) rfl
                                          have c3567 := sf_ma tw3532 (p := 83) rfl
                                          have c3568 := sf_ma tw3532 (p := 19) rfl
                                          have c3569 := sf_ma tw3532 (p := 84) rfl
                                          have c3570 := sf_ma tw3532 (p := 20) rfl
                                          have c3571 := sf_ma tw3532 (p := 85) rfl
                                          have c3572 := sf_ma tw3532 (p := 24) rfl
                                          have c3573 := sf_ma tw3532 (p := 86) rfl
                                          have c3574 := sf_ma tw3532 (p := 25) rfl
                                          have c3575 := sf_ma tw3532 (p := 87) rfl
                                          have c3576 := sf_ma tw3532 (p := 23) rfl
                                          have c3577 := sf_ma tw3532 (p := 88) rfl
                                          have c3578 := sf_ma tw3532 (p := 26) rfl
                                          have c3579 := sf_ma tw3532 (p := 89) rfl
                                          have c3580 := sf_ma tw3532 (p := 27) rfl
                                          have c3581 := sf_ma tw3532 (p := 90) rfl
                                          have c3582 := sf_ma tw3532 (p := 36) rfl
                                          have c3583 := sf_ma tw3532 (p := 102) rfl
                                          have c3584 := sf_ma tw3532 (p := 37) rfl
                                          have c3585 := sf_ma tw3532 (p := 103) rfl
                                          have c3586 := sf_mf tw3532 (p := 60) (j := 0) rfl
                                          have c3587 := sf_ma tw3532 (p := 61) rfl
                                          have c3588 := sf_ma tw3532 (p := 62) rfl
                                          have c3589 := sf_ma tw3532 (p := 63) rfl
                                          have c3590 := sf_ma tw3532 (p := 65) rfl
                                          have c3591 := sf_ma tw3532 (p := 66) rfl
                                          have c3592 := sf_mf tw3532 (p := 71) (j := 56) rfl
                                          have c3593 := sf_ma tw3532 (p := 121) rfl
                                          have c3594 := sf_ma tw3532 (p := 123) rfl
                                          have c3595 := sf_ma tw3532 (p := 125) rfl
                                          have c3596 := sf_ma tw3532 (p := 126) rfl
                                          have c3597 := sf_ma tw3532 (p := 38) rfl
                                          have c3598 := sf_ma tw3532 (p := 40) rfl
                                          have c3599 := sf_ma tw3532 (p := 41) rfl
                                          have c3600 := sf_ma tw3532 (p := 42) rfl
                                          have c3601 := sf_ma tw3532 (p := 43) rfl
                                          have c3602 := sf_ma tw3532 (p := 44) rfl
                                          have c3603 := sf_ma tw3532 (p := 47) rfl
                                          have c3604 := sf_ma tw3532 (p := 104) rfl
                                          have c3605 := sf_ma tw3532 (p := 106) rfl
                                          have c3606 := sf_ma tw3532 (p := 113) rfl
                                          have c3607 := sf_ma tw3532 (p := 107) rfl
                                          have c3608 := sf_ma tw3532 (p := 108) rfl
                                          have c3609 := sf_ma tw3532 (p := 109) rfl
                                          have c3610 := sf_mf tw3532 (p := 71) (j := 41) rfl
                                          have c3611 := sf_ma tw3532 (p := 68) rfl
                                          have c3612 := sf_ma tw3532 (p := 69) rfl
                                          have c3613 := sf_ma tw3532 (p := 70) rfl
                                          have c3614 := sf_ma tw3532 (p := 127) rfl
                                          have c3615 := sf_ma tw3532 (p := 128) rfl
                                          have c3616 := sf_ma tw3532 (p := 129) rfl
                                          have G0 := q3533_0
                                          have G1 := q3533_1
                                          have G2 := q3533_2
                                          clear q3533_0 q3533_1 q3533_2
                                          have b12 := (sf_fb I_w (p := 71) (ci := 9) (j := 35) rfl rfl)
                                          have b40 := (sf_fb I_w (p := 71) (ci := 9) (j := 56) rfl rfl)
                                          have b24 := (sf_fb I_w (p := 71) (ci := 9) (j := 1) rfl rfl)
                                          have b4n := (sf_fb I_w (p := 71) (ci := 9) (j := 5) rfl rfl)
                                          have hda : 0 ≤ (xs (x4.toInt.toNat + 1)).toInt → (xs (x4.toInt.toNat + 1)).toInt < (sf_f w 71 35).toInt → (sf_a w 40 (xs (x4.toInt.toNat + 1)).toInt.toNat).toInt = (sf_a w 106 (xs (x4.toInt.toNat + 1)).toInt.toNat).toInt := fun h1 h2 => by rw [f_23.2.1 _ (by omega)]
                                          have hdl : 0 ≤ (xs (x4.toInt.toNat + 1)).toInt → (xs (x4.toInt.toNat + 1)).toInt < (sf_f w 71 35).toInt → (sf_a w 38 (xs (x4.toInt.toNat + 1)).toInt.toNat).toInt = (sf_a w 104 (xs (x4.toInt.toNat + 1)).toInt.toNat).toInt := fun h1 h2 => by rw [f_23.1 _ (by omega)]
                                          have hCA : 0 ≤ (xs (x4.toInt.toNat + 1)).toInt → (xs (x4.toInt.toNat + 1)).toInt < (sf_f w 71 35).toInt → ((sc_ok (sc_rc (sc_b (sf_a w 2) (sf_a w 6) (sf_a w 7) (sf_a w 8) (sf_a w 9) (sf_a w 3) (sp_ag (sf_g w 10)) (sf_f w 1 5).toInt (sf_f w 1 0).toInt) (sf_a w 2) (sf_a w 14) (sf_a w 15) (sf_a w 19) (sf_a w 20) (sf_f w 13 1).toInt (sf_a w 42) (sf_a w 43) (sf_a w 36 (xs (x4.toInt.toNat + 1)).toInt.toNat).toInt (4 * (xs (x4.toInt.toNat + 1)).toInt).toNat) (sf_a w 38 (xs (x4.toInt.toNat + 1)).toInt.toNat).toInt) ↔ (sc_ok (sc_rm (sc_b (sf_a w 72) (sf_a w 75) (sf_a w 76) (sf_a w 77) (sf_a w 78) (sf_a w 3) (sp_aa (sf_a w 93)) (sf_f w 71 5).toInt (sf_f w 71 1).toInt) (sf_a w 72) (sf_a w 79) (sf_a w 80) (sf_a w 84) (sf_a w 85) (sf_f w 71 10).toInt (sf_a w 107) (sf_a w 108) (sf_a w 102 (xs (x4.toInt.toNat + 1)).toInt.toNat).toInt (4 * (xs (x4.toInt.toNat + 1)).toInt).toNat) (sf_a w 104 (xs (x4.toInt.toNat + 1)).toInt.toNat).toInt)) := fun h1 h2 => sc_okE (hdl h1 h2) (fun k hk => by
                                            have h4 := (sf_arr I_w (p := 38) rfl).2.1 (xs (x4.toInt.toNat + 1)).toInt.toNat (by omega)
                                            have hr48 : (4 * (xs (x4.toInt.toNat + 1)).toInt).toNat + k < 48 := by omega
                                            have hgd := (sf_arr I_w (p := 42) rfl).2.1 ((4 * (xs (x4.toInt.toNat + 1)).toInt).toNat + k) hr48
                                            have hge := f_23.2.2.1 ((4 * (xs (x4.toInt.toNat + 1)).toInt).toNat + k) (by omega)
                                            refine sc_rE f_1 f_3 f_8 f_9 f_13 f_14 (by omega) (sc_bE f_1 f_3 f_4 f_5 f_6 f_7 (fun i hi => (sf_arr I_w (p := 77) rfl).2.1 i (by omega)) (fun j hj => congrArg Int32.toInt (f_2 _ j (by omega) hj)) (by omega) (by omega) (by rw [hge])) (sc_br (by omega)).2 (f_23.2.2.2.1 _ (by omega)) (by rw [f_20 _ (by omega)]))
                                          have hWh : 0 ≤ (xs (x4.toInt.toNat + 1)).toInt → (xs (x4.toInt.toNat + 1)).toInt < (sf_f w 71 35).toInt → (((sf_a w 40 (xs (x4.toInt.toNat + 1)).toInt.toNat).toInt = 1 ∧ ∀ k : Nat, (k : Int) < (sf_a w 38 (xs (x4.toInt.toNat + 1)).toInt.toNat).toInt → (sf_a w 63 (sl_ix (sf_a w 41 (xs (x4.toInt.toNat + 1)).toInt.toNat).toInt k)).toInt ≤ 0) ↔ ((sf_a w 106 (xs (x4.toInt.toNat + 1)).toInt.toNat).toInt = 1 ∧ ∀ j : Nat, (j : Int) < (sf_a w 104 (xs (x4.toInt.toNat + 1)).toInt.toNat).toInt → (sf_a w 123 (sl_iy (sf_a w 113 ) (4 * (xs (x4.toInt.toNat + 1)).toInt).toNat j)).toInt = 0)) := fun h1 h2 => sl_WhE f_22 f_23 f_24 (fun x hx => (sf_arr I_w (p := 38) rfl).2.1 x hx) (fun i hi => (sf_arr I_w (p := 41) rfl).2.1 i hi) (fun i hi => (sf_arr I_w (p := 113) rfl).2.1 i hi) h1 (by omega)
                                          have hrc := sl_cmE F0 G0 (by constructor <;> (intro h9; have h8 := hdl h9.1 (by omega); omega)) (fun h9 => hWh h9.1 (by omega)) (fun h9 => hCA h9.1 (by omega))
                                          have hA := sl_AMDz (dz := (xs (x4.toInt.toNat + 1)).toInt) f_22 f_23 f_24 (fun x hx => (sf_arr I_w (p := 38) rfl).2.1 x hx) (fun i hi => (sf_arr I_b (p := 44) rfl).2.1 i hi) hrc (fun h9 => by obtain ⟨k1, k2, k3⟩ := sl_cm0 G0 h9; exact ⟨k1.1, by omega, k2.1, k2.2⟩) F1 G1 rfl rfl rfl F2 G2
                                          clear F0 G0 F1 G1 F2 G2 hCA hWh
                                          obtain ⟨hRL, hRD⟩ := hA
                                          refine sf_lstore (L' := [(5, .inl (.int v3438)), (0, .inl (.ref 100000)), (1, .inl (.ref 0)), (2, .inl (.ref 71)), (3, .inl (.ref 130)), (4, .inl (.int x4))]) rfl ?_
                                          show kt_W_law_1404 N xs K _ _ _ _ _
                                          refine sf_iinc (L' := [(6, .inl (.long v3531)), (5, .inl (.int v3438)), (0, .inl (.ref 100000)), (1, .inl (.ref 0)), (2, .inl (.ref 71)), (3, .inl (.ref 130))]) (x := x4) sf_c8 rfl rfl (by omega) (fun v3617 ev3617 => ?_)
                                          refine sf_can (L' := [(0, .inl (.ref 100000)), (1, .inl (.ref 0)), (2, .inl (.ref 71)), (3, .inl (.ref 130)), (4, .inl (.int v3617))]) rfl ?_
                                          exact ih _ _ _ _ Iw3532 (by omega) (by omega) (by omega) (by omega) (by rw [c3534, c3441]; rw [c3535, c3442]; rw [c3536, c3443]; rw [c3537, c3444]; rw [c3538, c3445]; rw [c3539, c3446]; rw [c3540, c3447]; rw [c3541, c3448]; rw [c3542, c3449]; rw [c3543, c3450]; omega) (by rw [c3544, c3451]; rw [c3545, c3452]; rw [c3535, c3442]; first | exact f_1 | exact hJ) (by rw [c3546, c3453]; rw [c3547, c3454]; first | exact f_2 | exact hK2) (by rw [c3549, c3455]; rw [c3545, c3452]; rw [c3535, c3442]; first | exact f_3 | exact hQ2) (by rw [c3550, c3456]; rw [c3551, c3457]; rw [c3537, c3444]; first | exact f_4 | exact hQ6) (by rw [c3552, c3458]; rw [c3553, c3459]; rw [c3537, c3444]; first | exact f_5 | exact hQ7) (by rw [c3554, c3460]; rw [c3555, c3461]; rw [c3537, c3444]; first | exact f_6 | exact hQ8) (by rw [c3556, c3462]; rw [c3557, c3463]; rw [c3537, c3444]; first | exact f_7 | exact hQ9) (by rw [c3558, c3464]; rw [c3559, c3465]; rw [c3539, c3446]; first | exact f_8 | exact hQ14) (by rw [c3560, c3466]; rw [c3561, c3467]; rw [c3539, c3446]; first | exact f_9 | exact hQ15) (by rw [c3562, c3468]; rw [c3563, c3469]; rw [c3539, c3446]; first | exact f_10 | exact hQ16) (by rw [c3564, c3470]; rw [c3565, c3471]; rw [c3539, c3446]; first | exact f_11 | exact hQ17) (by rw [c3566, c3472]; rw [c3567, c3473]; rw [c3539, c3446]; first | exact f_12 | exact hQ18) (by rw [c3568, c3474]; rw [c3569, c3475]; rw [c3539, c3446]; first | exact f_13 | exact hQ19) (by rw [c3570, c3476]; rw [c3571, c3477]; rw [c3539, c3446]; first | exact f_14 | exact hQ20) (by rw [c3572, c3478]; rw [c3573, c3479]; rw [c3541, c3448]; first | exact f_15 | exact hQ24) (by rw [c3574, c3480]; rw [c3575, c3481]; rw [c3541, c3448]; first | exact f_16 | exact hQ25) (by rw [c3576, c3482]; rw [c3577, c3483]; rw [c3541, c3448]; first | exact f_17 | exact hQ23) (by rw [c3578, c3484]; rw [c3579, c3485]; rw [c3541, c3448]; first | exact f_18 | exact hQ26) (by rw [c3580, c3486]; rw [c3581, c3487]; rw [c3541, c3448]; first | exact f_19 | exact hQ27) (by rw [c3582, c3488]; rw [c3583, c3489]; rw [c3543, c3450]; first | exact f_20 | exact hQ36) (by rw [c3584, c3490]; rw [c3585, c3491]; rw [c3543, c3450]; first | exact f_21 | exact hQ37) (by rw [c3586, c3492]; rw [c3592, c3497]; rw [c3587, c3493]; rw [c3588]; rw [c3589, c3494]; rw [c3590, c3495]; rw [c3591, c3496]; rw [c3593, c3498]; rw [c3594, c3500]; rw [c3595, c3501]; rw [c3596, c3502]; exact hRL) (by rw [c3597, c3503]; rw [c3604, c3509]; rw [c3598, c3504]; rw [c3605, c3510]; rw [c3600, c3506]; rw [c3607, c3512]; rw [c3601, c3507]; rw [c3608, c3513]; rw [c3603, c3508]; rw [c3609, c3515]; rw [c3602]; exact hRD) (by rw [c3598, c3504]; rw [c3597, c3503]; rw [c3599, c3505]; rw [c3606, c3511]; exact f_24) (by rw [c3583, c3489]; rw [c3585, c3491]; rw [c3605, c3510]; rw [c3543, c3450]; rw [c3610, c3516]; exact f_25) (by rw [c3605, c3510]; rw [c3543, c3450]; exact f_26) (by rw [c3611, c3517]; rw [c3614, c3520]; rw [c3612, c3518]; rw [c3615, c3521]; rw [c3613, c3519]; rw [c3616, c3522]; exact f_27) (by omega)
                                        · clear h3429
                                          refine sf_sw1 sf_c18 (fun h3618 => ?_) (fun h3618 => ?_)
                                          · refine sf_aload rfl ?_
                                            refine sf_aload rfl ?_
                                            refine sf_iload rfl ?_
                                            refine sf_iconst sf_c1 (fun z3619 ez3619 => ?_)
                                            refine sf_iadd (by omega) (fun v3620 ev3620 => ?_)
                                            refine sf_sldk (x := x4) (k := 1) (by omega) (by omega) (by omega) ?_
                                            clear ev3620 ez3619
                                            refine sf_aload rfl ?_
                                            refine sf_iload rfl ?_
                                            refine sf_iconst sf_c2 (fun z3621 ez3621 => ?_)
                                            refine sf_iadd (by omega) (fun v3622 ev3622 => ?_)
                                            refine sf_sldk (x := x4) (k := 2) (by omega) (by omega) (by omega) ?_
                                            clear ev3622 ez3621
                                            refine sf_aload rfl ?_
                                            refine sf_callv4 rfl (by omega) (by omega) ?_
                                            refine sc_W_release_0_130 I_w (by exact sl_Bq f_22.2.2.1 f_22.2.2.2.1 f_22.2.2.2.2.2.2.1) (fun v3623 w3624 Iw3624 tw3624 lv3623 uv3623 q3625_0 q3625_1 q3625_2 => ?_)
                                            have c3626 := sf_mf tw3624 (p := 1) (j := 0) rfl
                                            have c3627 := sf_mf tw3624 (p := 71) (j := 1) rfl
                                            have c3628 := sf_mf tw3624 (p := 1) (j := 5) rfl
                                            have c3629 := sf_mf tw3624 (p := 71) (j := 5) rfl
                                            have c3630 := sf_mf tw3624 (p := 13) (j := 1) rfl
                                            have c3631 := sf_mf tw3624 (p := 71) (j := 10) rfl
                                            have c3632 := sf_mf tw3624 (p := 21) (j := 1) rfl
                                            have c3633 := sf_mf tw3624 (p := 71) (j := 18) rfl
                                            have c3634 := sf_mf tw3624 (p := 35) (j := 0) rfl
                                            have c3635 := sf_mf tw3624 (p := 71) (j := 35) rfl
                                            have c3636 := sf_ma tw3624 (p := 3) rfl
                                            have c3637 := sf_ma tw3624 (p := 72) rfl
                                            have c3638 := sf_mg tw3624 (p := 10) rfl
                                            have c3639 := sf_ma tw3624 (p := 93) rfl
                                            have c3640 := sf_ma tw3624 (p := 2) rfl
                                            have c3641 := sf_ma tw3624 (p := 6) rfl
                                            have c3642 := sf_ma tw3624 (p := 75) rfl
                                            have c3643 := sf_ma tw3624 (p := 7) rfl
                                            have c3644 := sf_ma tw3624 (p := 76) rfl
                                            have c3645 := sf_ma tw3624 (p := 8) rfl
                                            have c3646 := sf_ma tw3624 (p := 77) rfl
                                            have c3647 := sf_ma tw3624 (p := 9) rfl
                                            have c3648 := sf_ma tw3624 (p := 78) rfl
                                            have c3649 := sf_ma tw3624 (p := 14) rfl
                                            have c3650 := sf_ma tw3624 (p := 79) rfl
                                            have c3651 := sf_ma tw3624 (p := 15) rfl
                                            have c3652 := sf_ma tw3624 (p := 80) rfl
                                            have c3653 := sf_ma tw3624 (p := 16) rfl
                                            have c3654 := sf_ma tw3624 (p := 81) rfl
                                            have c3655 := sf_ma tw3624 (p := 17) rfl
                                            have c3656 := sf_ma tw3624 (p := 82) rfl
                                            have c3657 := sf_ma tw3624 (p := 18) rfl
                                            have c3658 := sf_ma tw3624 (p := 83) rfl
                                            have c3659 := sf_ma tw3624 (p := 19) rfl
                                            have c3660 := sf_ma tw3624 (p := 84) rfl
                                            have c3661 := sf_ma tw3624 (p := 20) rfl
                                            have c3662 := sf_ma tw3624 (p := 85) rfl
                                            have c3663 := sf_ma tw3624 (p := 24) rfl
                                            have c3664 := sf_ma tw3624 (p := 86) rfl
                                            have c3665 := sf_ma tw3624 (p := 25) rfl
                                            have c3666 := sf_ma tw3624 (p := 87) rfl
                                            have c3667 := sf_ma tw3624 (p := 23) rfl
                                            have c3668 := sf_ma tw3624 (p := 88) rfl
                                            have c3669 := sf_ma tw3624 (p := 26) rfl
                                            have c3670 := sf_ma tw3624 (p := 89) rfl
                                            have c3671 := sf_ma tw3624 (p := 27) rfl
                                            have c3672 := sf_ma tw3624 (p := 90) rfl
                                            have c3673 := sf_ma tw3624 (p := 36) rfl
                                            have c3674 := sf_ma tw3624 (p := 102) rfl
                                            have c3675 := sf_ma tw3624 (p := 37) rfl
                                            have c3676 := sf_ma tw3624 (p := 103) rfl
                                            have c3677 := sf_mf tw3624 (p := 60) (j := 0) rfl
                                            have c3678 := sf_ma tw3624 (p := 61) rfl
                                            have c3679 := sf_ma tw3624 (p := 62) rfl
                                            have c3680 := sf_ma tw3624 (p := 65) rfl
                                            have c3681 := sf_ma tw3624 (p := 66) rfl
                                            have c3682 := sf_mf tw3624 (p := 71) (j := 56) rfl
                                            have c3683 := sf_ma tw3624 (p := 121) rfl
                                            have c3684 := sf_ma tw3624 (p := 122) rfl
                                            have c3685 := sf_ma tw3624 (p := 123) rfl
                                            have c3686 := sf_ma tw3624 (p := 125) rfl
                                            have c3687 := sf_ma tw3624 (p := 126) rfl
                                            have c3688 := sf_ma tw3624 (p := 38) rfl
                                            have c3689 := sf_ma tw3624 (p := 40) rfl
                                            have c3690 := sf_ma tw3624 (p := 41) rfl
                                            have c3691 := sf_ma tw3624 (p := 42) rfl
                                            have c3692 := sf_ma tw3624 (p := 43) rfl
                                            have c3693 := sf_ma tw3624 (p := 44) rfl
                                            have c3694 := sf_ma tw3624 (p := 47) rfl
                                            have c3695 := sf_ma tw3624 (p := 104) rfl
                                            have c3696 := sf_ma tw3624 (p := 106) rfl
                                            have c3697 := sf_ma tw3624 (p := 113) rfl
                                            have c3698 := sf_ma tw3624 (p := 107) rfl
                                            have c3699 := sf_ma tw3624 (p := 108) rfl
                                            have c3700 := sf_ma tw3624 (p := 110) rfl
                                            have c3701 := sf_ma tw3624 (p := 109) rfl
                                            have c3702 := sf_mf tw3624 (p := 71) (j := 41) rfl
                                            have c3703 := sf_ma tw3624 (p := 69) rfl
                                            have c3704 := sf_ma tw3624 (p := 70) rfl
                                            have c3705 := sf_ma tw3624 (p := 127) rfl
                                            have c3706 := sf_ma tw3624 (p := 128) rfl
                                            have c3707 := sf_ma tw3624 (p := 129) rfl
                                            have F0 := q3625_0
                                            have F1 := q3625_1
                                            have F2 := q3625_2
                                            clear q3625_0 q3625_1 q3625_2
                                            refine sf_istore (L' := [(0, .inl (.ref 100000)), (1, .inl (.ref 0)), (2, .inl (.ref 71)), (3, .inl (.ref 130)), (4, .inl (.int x4))]) rfl ?_
                                            refine sf_aload rfl ?_
                                            refine sf_aload rfl ?_
                                            refine sf_iload rfl ?_
                                            refine sf_iconst sf_c1 (fun z3708 ez3708 => ?_)
                                            refine sf_iadd (by omega) (fun v3709 ev3709 => ?_)
                                            refine sf_sldk (x := x4) (k := 1) (by omega) (by omega) (by omega) ?_
                                            clear ev3709 ez3708
                                            refine sf_aload rfl ?_
                                            refine sf_iload rfl ?_
                                            refine sf_iconst sf_c2 (fun z3710 ez3710 => ?_)
                                            refine sf_iadd (by omega) (fun v3711 ev3711 => ?_)
                                            refine sf_sldk (x := x4) (k := 2) (by omega) (by omega) (by omega) ?_
                                            clear ev3711 ez3710
                                            refine sf_callv3 rfl (by omega) (by omega) ?_
                                            refine sf_rv Iw3624 rfl ?_
                                            refine sc_M_release Iw3624 (by rw [c3684]; rw [c3685]; exact f_22.2.2.2.2.2.2.1) (fun v3712 w3713 Iw3713 tw3713 q3714_0 q3714_1 q3714_2 => ?_)
                                            rw [c3683] at q3714_0
                                            rw [c3684] at q3714_0
                                            rw [c3685] at q3714_0
                                            rw [c3686] at q3714_0
                                            rw [c3682] at q3714_0
                                            rw [c3683] at q3714_1
                                            rw [c3684] at q3714_1
                                            rw [c3685] at q3714_1
                                            rw [c3686] at q3714_1
                                            rw [c3682] at q3714_1
                                            rw [c3705] at q3714_2
                                            have c3715 := sf_mf tw3713 (p := 1) (j := 0) rfl
                                            have c3716 := sf_mf tw3713 (p := 71) (j := 1) rfl
                                            have c3717 := sf_mf tw3713 (p := 1) (j := 5) rfl
                                            have c3718 := sf_mf tw3713 (p := 71) (j := 5) rfl
                                            have c3719 := sf_mf tw3713 (p := 13) (j := 1) rfl
                                            have c3720 := sf_mf tw3713 (p := 71) (j := 10) rfl
                                            have c3721 := sf_mf tw3713 (p := 21) (j := 1) rfl
                                            have c3722 := sf_mf tw3713 (p := 71) (j := 18) rfl
                                            have c3723 := sf_mf tw3713 (p := 35) (j := 0) rfl
                                            have c3724 := sf_mf tw3713 (p := 71) (j := 35) rfl
                                            have c3725 := sf_ma tw3713 (p := 3) rfl
                                            have c3726 := sf_ma tw3713 (p := 72) rfl
                                            have c3727 := sf_mg tw3713 (p := 10) rfl
                                            have c3728 := sf_ma tw3713 (p := 93) rfl
                                            have c3729 := sf_mL tw3713 (p := 130) rfl
                                            have c3730 := sf_ma tw3713 (p := 2) rfl
                                            have c3731 := sf_ma tw3713 (p := 6) rfl
                                            have c3732 := sf_ma tw3713 (p := 75) rfl
                                            have c3733 := sf_ma tw3713 (p := 7) rfl
                                            have c3734 := sf_ma tw3713 (p := 76) rfl
                                            have c3735 := sf_ma tw3713 (p := 8) rfl
                                            have c3736 := sf_ma tw3713 (p := 77) rfl
                                            have c3737 := sf_ma tw3713 (p := 9) rfl
                                            have c3738 := sf_ma tw3713 (p := 78) rfl
                                            have c3739 := sf_ma tw3713 (p := 14) rfl
                                            have c3740 := sf_ma tw3713 (p := 79) rfl
                                            have c3741 := sf_ma tw3713 (p := 15) rfl
                                            have c3742 := sf_ma tw3713 (p := 80) rfl
                                            have c3743 := sf_ma tw3713 (p := 16) rfl
                                            have c3744 := sf_ma tw3713 (p := 81) rfl
                                            have c3745 := sf_ma tw3713 (p := 17) rfl
                                            have c3746 := sf_ma tw3713 (p := 82) rfl
                                            have c3747 := sf_ma tw3713 (p := 18) rfl
                                            have c3748 := sf_ma tw3713 (p := 83) rfl
                                            have c3749 := sf_ma tw3713 (p := 19) rfl
                                            have c3750 := sf_ma tw3713 (p := 84) rfl
                                            have c3751 := sf_ma tw3713 (p := 20) rfl
                                            have c3752 := sf_ma tw3713 (p := 85) rfl
                                            have c3753 := sf_ma tw3713 (p := 24) rfl
                                            have c3754 := sf_ma tw3713 (p := 86) rfl
                                            have c3755 := sf_ma tw3713 (p := 25) rfl
                                            have c3756 := sf_ma tw3713 (p := 87) rfl
                                            have c3757 := sf_ma tw3713 (p := 23) rfl
                                            have c3758 := sf_ma tw3713 (p := 88) rfl
                                            have c3759 := sf_ma tw3713 (p := 26) rfl
                                            have c3760 := sf_ma tw3713 (p := 89) rfl
                                            have c3761 := sf_ma tw3713 (p := 27) rfl
                                            have c3762 := sf_ma tw3713 (p := 90) rfl
                                            have c3763 := sf_ma tw3713 (p := 36) rfl
                                            have c3764 := sf_ma tw3713 (p := 102) rfl
                                            have c3765 := sf_ma tw3713 (p := 37) rfl
                                            have c3766 := sf_ma tw3713 (p := 103) rfl
                                            have c3767 := sf_mf tw3713 (p := 60) (j := 0) rfl
                                            have c3768 := sf_ma tw3713 (p := 61) rfl
                                            have c3769 := sf_ma tw3713 (p := 62) rfl
                                            have c3770 := sf_ma tw3713 (p := 63) rfl
                                            have c3771 := sf_ma tw3713 (p := 65) rfl
                                            have c3772 := sf_ma tw3713 (p := 66) rfl
                                            have c3773 := sf_mf tw3713 (p := 71) (j := 56) rfl
                                            have c3774 := sf_ma tw3713 (p := 121) rfl
                                            have c3775 := sf_ma tw3713 (p := 122) rfl
                                            have c3776 := sf_ma tw3713 (p := 125) rfl
                                            have c3777 := sf_ma tw3713 (p := 126) rfl
                                            have c3778 := sf_ma tw3713 (p := 38) rfl
                                            have c3779 := sf_ma tw3713 (p := 40) rfl
                                            have c3780 := sf_ma tw3713 (p := 41) rfl
                                            have c3781 := sf_ma tw3713 (p := 42) rfl
                                            have c3782 := sf_ma tw3713 (p := 43) rfl
                                            have c3783 := sf_ma tw3713 (p := 44) rfl
                                            have c3784 := sf_ma tw3713 (p := 47) rfl
                                            have c3785 := sf_ma tw3713 (p := 104) rfl
                                            have c3786 := sf_ma tw3713 (p := 106) rfl
                                            have c3787 := sf_ma tw3713 (p := 113) rfl
                                            have c3788 := sf_ma tw3713 (p := 107) rfl
                                            have c3789 := sf_ma tw3713 (p := 108) rfl
                                            have c3790 := sf_ma tw3713 (p := 110) rfl
                                            have c3791 := sf_ma tw3713 (p := 109) rfl
                                            have c3792 := sf_mf tw3713 (p := 71) (j := 41) rfl
                                            have c3793 := sf_ma tw3713 (p := 68) rfl
                                            have c3794 := sf_ma tw3713 (p := 69) rfl
                                            have c3795 := sf_ma tw3713 (p := 70) rfl
                                            have c3796 := sf_ma tw3713 (p := 128) rfl
                                            have c3797 := sf_ma tw3713 (p := 129) rfl
                                            have G0 := q3714_0
                                            have G1 := q3714_1
                                            have G2 := q3714_2
                                            clear q3714_0 q3714_1 q3714_2
                                            have b40 := (sf_fb I_w (p := 71) (ci := 9) (j := 56) rfl rfl)
                                            have hSS := sl_SE f_22 (x := (xs (x4.toInt.toNat + 1)).toInt) (x' := (xs (x4.toInt.toNat + 1)).toInt) (y := 1) (y' := 1) b40.2 rfl rfl
                                            have hrc : v3623.toInt = (sf_f w3713 71 0).toInt := by omega
                                            have hRL := sl_RLT f_22 F1 G1 hrc rfl rfl (fun h9 => by omega)
                                            have hRG : sf_Q 16 (sf_a w3624 68) (sf_a w3713 127) ∧ sf_Q 16 (sf_a w 69) (sf_a w 128) ∧ sf_Q 16 (sf_a w 70) (sf_a w 129) := ⟨sl_QV f_27.1 F2 G2 hrc rfl rfl (fun h9 => by omega), f_27.2⟩
                                            clear F1 F2 G1 G2
                                            refine sf_lstore (L' := [(5, .inl (.int v3623)), (0, .inl (.ref 100000)), (1, .inl (.ref 0)), (2, .inl (.ref 71)), (3, .inl (.ref 130)), (4, .inl (.int x4))]) rfl ?_
                                            show kt_W_law_1404 N xs K _ _ _ _ _
                                            refine sf_iinc (L' := [(6, .inl (.long v3712)), (5, .inl (.int v3623)), (0, .inl (.ref 100000)), (1, .inl (.ref 0)), (2, .inl (.ref 71)), (3, .inl (.ref 130))]) (x := x4) sf_c8 rfl rfl (by omega) (fun v3798 ev3798 => ?_)
                                            refine sf_can (L' := [(0, .inl (.ref 100000)), (1, .inl (.ref 0)), (2, .inl (.ref 71)), (3, .inl (.ref 130)), (4, .inl (.int v3798))]) rfl ?_
                                            exact ih _ _ _ _ Iw3713 (by omega) (by omega) (by omega) (by omega) (by rw [c3715, c3626]; rw [c3716, c3627]; rw [c3717, c3628]; rw [c3718, c3629]; rw [c3719, c3630]; rw [c3720, c3631]; rw [c3721, c3632]; rw [c3722, c3633]; rw [c3723, c3634]; rw [c3724, c3635]; omega) (by rw [c3725, c3636]; rw [c3726, c3637]; rw [c3716, c3627]; first | exact f_1 | exact hJ) (by rw [c3727, c3638]; rw [c3728, c3639]; first | exact f_2 | exact hK2) (by rw [c3730, c3640]; rw [c3726, c3637]; rw [c3716, c3627]; first | exact f_3 | exact hQ2) (by rw [c3731, c3641]; rw [c3732, c3642]; rw [c3718, c3629]; first | exact f_4 | exact hQ6) (by rw [c3733, c3643]; rw [c3734, c3644]; rw [c3718, c3629]; first | exact f_5 | exact hQ7) (by rw [c3735, c3645]; rw [c3736, c3646]; rw [c3718, c3629]; first | exact f_6 | exact hQ8) (by rw [c3737, c3647]; rw [c3738, c3648]; rw [c3718, c3629]; first | exact f_7 | exact hQ9) (by rw [c3739, c3649]; rw [c3740, c3650]; rw [c3720, c3631]; first | exact f_8 | exact hQ14) (by rw [c3741, c3651]; rw [c3742, c3652]; rw [c3720, c3631]; first | exact f_9 | exact hQ15) (by rw [c3743, c3653]; rw [c3744, c3654]; rw [c3720, c3631]; first | exact f_10 | exact hQ16) (by rw [c3745, c3655]; rw [c3746, c3656]; rw [c3720, c3631]; first | exact f_11 | exact hQ17) (by rw [c3747, c3657]; rw [c3748, c3658]; rw [c3720, c3631]; first | exact f_12 | exact hQ18) (by rw [c3749, c3659]; rw [c3750, c3660]; rw [c3720, c3631]; first | exact f_13 | exact hQ19) (by rw [c3751, c3661]; rw [c3752, c3662]; rw [c3720, c3631]; first | exact f_14 | exact hQ20) (by rw [c3753, c3663]; rw [c3754, c3664]; rw [c3722, c3633]; first | exact f_15 | exact hQ24) (by rw [c3755, c3665]; rw [c3756, c3666]; rw [c3722, c3633]; first | exact f_16 | exact hQ25) (by rw [c3757, c3667]; rw [c3758, c3668]; rw [c3722, c3633]; first | exact f_17 | exact hQ23) (by rw [c3759, c3669]; rw [c3760, c3670]; rw [c3722, c3633]; first | exact f_18 | exact hQ26) (by rw [c3761, c3671]; rw [c3762, c3672]; rw [c3722, c3633]; first | exact f_19 | exact hQ27) (by rw [c3763, c3673]; rw [c3764, c3674]; rw [c3724, c3635]; first | exact f_20 | exact hQ36) (by rw [c3765, c3675]; rw [c3766, c3676]; rw [c3724, c3635]; first | exact f_21 | exact hQ37) (by rw [c3767, c3677]; rw [c3773, c3682]; rw [c3768, c3678]; rw [c3769, c3679]; rw [c3770]; rw [c3771, c3680]; rw [c3772, c3681]; rw [c3774, c3683]; rw [c3775, c3684]; rw [c3776, c3686]; rw [c3777, c3687]; exact hRL) (by rw [c3778, c3688]; rw [c3785, c3695]; rw [c3779, c3689]; rw [c3786, c3696]; rw [c3781, c3691]; rw [c3788, c3698]; rw [c3782, c3692]; rw [c3789, c3699]; rw [c3784, c3694]; rw [c3791, c3701]; rw [c3783, c3693]; rw [c3790, c3700]; exact f_23) (by rw [c3779, c3689]; rw [c3778, c3688]; rw [c3780, c3690]; rw [c3787, c3697]; exact f_24) (by rw [c3764, c3674]; rw [c3766, c3676]; rw [c3786, c3696]; rw [c3724, c3635]; rw [c3792, c3702]; exact f_25) (by rw [c3786, c3696]; rw [c3724, c3635]; exact f_26) (by rw [c3793]; rw [c3794, c3703]; rw [c3796, c3706]; rw [c3795, c3704]; rw [c3797, c3707]; exact hRG) (by omega)
                                          · clear h3618
                                            refine sf_sw1 sf_c19 (fun h3799 => ?_) (fun h3799 => ?_)
                                            · refine sf_aload rfl ?_
                                              refine sf_aload rfl ?_
                                              refine sf_iload rfl ?_
                                              refine sf_iconst sf_c1 (fun z3800 ez3800 => ?_)
                                              refine sf_iadd (by omega) (fun v3801 ev3801 => ?_)
                                              refine sf_sldk (x := x4) (k := 1) (by omega) (by omega) (by omega) ?_
                                              clear ev3801 ez3800
                                              refine sf_aload rfl ?_
                                              refine sf_iload rfl ?_
                                              refine sf_iconst sf_c2 (fun z3802 ez3802 => ?_)
                                              refine sf_iadd (by omega) (fun v3803 ev3803 => ?_)
                                              refine sf_sldk (x := x4) (k := 2) (by omega) (by omega) (by omega) ?_
                                              clear ev3803 ez3802
                                              refine sf_aload rfl ?_
                                              refine sf_callv4 rfl (by omega) (by omega) ?_
                                              refine sc_W_export_0_130 I_w (by exact sl_Bq f_22.2.2.1 f_22.2.2.2.1 f_22.2.2.2.2.2.2.1) (fun v3804 w3805 Iw3805 tw3805 lv3804 uv3804 q3806_0 q3806_1 => ?_)
                                              have c3807 := sf_mf tw3805 (p := 1) (j := 0) rfl
                                              have c3808 := sf_mf tw3805 (p := 71) (j := 1) rfl
                                              have c3809 := sf_mf tw3805 (p := 1) (j := 5) rfl
                                              have c3810 := sf_mf tw3805 (p := 71) (j := 5) rfl
                                              have c3811 := sf_mf tw3805 (p := 13) (j := 1) rfl
                                              have c3812 := sf_mf tw3805 (p := 71) (j := 10) rfl
                                              have c3813 := sf_mf tw3805 (p := 21) (j := 1) rfl
                                              have c3814 := sf_mf tw3805 (p := 71) (j := 18) rfl
                                              have c3815 := sf_mf tw3805 (p := 35) (j := 0) rfl
                                              have c3816 := sf_mf tw3805 (p := 71) (j := 35) rfl
                                              have c3817 := sf_ma tw3805 (p := 3) rfl
                                              have c3818 := sf_ma tw3805 (p := 72) rfl
                                              have c3819 := sf_mg tw3805 (p := 10) rfl
                                              have c3820 := sf_ma tw3805 (p := 93) rfl
                                              have c3821 := sf_ma tw3805 (p := 2) rfl
                                              have c3822 := sf_ma tw3805 (p := 6) rfl
                                              have c3823 := sf_ma tw3805 (p := 75) rfl
                                              have c3824 := sf_ma tw3805 (p := 7) rfl
                                              have c3825 := sf_ma tw3805 (p := 76) rfl
                                              have c3826 := sf_ma tw3805 (p := 8) rfl
                                              have c3827 := sf_ma tw3805 (p := 77) rfl
                                              have c3828 := sf_ma tw3805 (p := 9) rfl
                                              have c3829 := sf_ma tw3805 (p := 78) rfl
                                              have c3830 := sf_ma tw3805 (p := 14) rfl
                                              have c3831 := sf_ma tw3805 (p := 79) rfl
                                              have c3832 := sf_ma tw3805 (p := 15) rfl
                                              have c3833 := sf_ma tw3805 (p := 80) rfl
                                              have c3834 := sf_ma tw3805 (p := 16) rfl
                                              have c3835 := sf_ma tw3805 (p := 81) rfl
                                              have c3836 := sf_ma tw3805 (p := 17) rfl
                                              have c3837 := sf_ma tw3805 (p := 82) rfl
                                              have c3838 := sf_ma tw3805 (p := 18) rfl
                                              have c3839 := sf_ma tw3805 (p := 83) rfl
                                              have c3840 := sf_ma tw3805 (p := 19) rfl
                                              have c3841 := sf_ma tw3805 (p := 84) rfl
                                              have c3842 := sf_ma tw3805 (p := 20) rfl
                                              have c3843 := sf_ma tw3805 (p := 85) rfl
                                              have c3844 := sf_ma tw3805 (p := 24) rfl
                                              have c3845 := sf_ma tw3805 (p := 86) rfl
                                              have c3846 := sf_ma tw3805 (p := 25) rfl
                                              have c3847 := sf_ma tw3805 (p := 87) rfl
                                              have c3848 := sf_ma tw3805 (p := 23) rfl
                                              have c3849 := sf_ma tw3805 (p := 88) rfl
                                              have c3850 := sf_ma tw3805 (p := 26) rfl
                                              have c3851 := sf_ma tw3805 (p := 89) rfl
                                              have c3852 := sf_ma tw3805 (p := 27) rfl
                                              have c3853 := sf_ma tw3805 (p := 90) rfl
                                              have c3854 := sf_ma tw3805 (p := 36) rfl
                                              have c3855 := sf_ma tw3805 (p := 102) rfl
                                              have c3856 := sf_ma tw3805 (p := 37) rfl
                                              have c3857 := sf_ma tw3805 (p := 103) rfl
                                              have c3858 := sf_mf tw3805 (p := 60) (j := 0) rfl
                                              have c3859 := sf_ma tw3805 (p := 61) rfl
                                              have c3860 := sf_ma tw3805 (p := 62) rfl
                                              have c3861 := sf_ma tw3805 (p := 65) rfl
                                              have c3862 := sf_ma tw3805 (p := 66) rfl
                                              have c3863 := sf_mf tw3805 (p := 71) (j := 56) rfl
                                              have c3864 := sf_ma tw3805 (p := 121) rfl
                                              have c3865 := sf_ma tw3805 (p := 122) rfl
                                              have c3866 := sf_ma tw3805 (p := 123) rfl
                                              have c3867 := sf_ma tw3805 (p := 125) rfl
                                              have c3868 := sf_ma tw3805 (p := 126) rfl
                                              have c3869 := sf_ma tw3805 (p := 38) rfl
                                              have c3870 := sf_ma tw3805 (p := 40) rfl
                                              have c3871 := sf_ma tw3805 (p := 41) rfl
                                              have c3872 := sf_ma tw3805 (p := 42) rfl
                                              have c3873 := sf_ma tw3805 (p := 43) rfl
                                              have c3874 := sf_ma tw3805 (p := 44) rfl
                                              have c3875 := sf_ma tw3805 (p := 47) rfl
                                              have c3876 := sf_ma tw3805 (p := 104) rfl
                                              have c3877 := sf_ma tw3805 (p := 106) rfl
                                              have c3878 := sf_ma tw3805 (p := 113) rfl
                                              have c3879 := sf_ma tw3805 (p := 107) rfl
                                              have c3880 := sf_ma tw3805 (p := 108) rfl
                                              have c3881 := sf_ma tw3805 (p := 110) rfl
                                              have c3882 := sf_ma tw3805 (p := 109) rfl
                                              have c3883 := sf_mf tw3805 (p := 71) (j := 41) rfl
                                              have c3884 := sf_ma tw3805 (p := 68) rfl
                                              have c3885 := sf_ma tw3805 (p := 69) rfl
                                              have c3886 := sf_ma tw3805 (p := 70) rfl
                                              have c3887 := sf_ma tw3805 (p := 127) rfl
                                              have c3888 := sf_ma tw3805 (p := 128) rfl
                                              have c3889 := sf_ma tw3805 (p := 129) rfl
                                              have F0 := q3806_0
                                              have F1 := q3806_1
                                              clear q3806_0 q3806_1
                                              refine sf_istore (L' := [(0, .inl (.ref 100000)), (1, .inl (.ref 0)), (2, .inl (.ref 71)), (3, .inl (.ref 130)), (4, .inl (.int x4))]) rfl ?_
                                              refine sf_aload rfl ?_
                                              refine sf_aload rfl ?_
                                              refine sf_iload rfl ?_
                                              refine sf_iconst sf_c1 (fun z3890 ez3890 => ?_)
                                              refine sf_iadd (by omega) (fun v3891 ev3891 => ?_)
                                              refine sf_sldk (x := x4) (k := 1) (by omega) (by omega) (by omega) ?_
                                              clear ev3891 ez3890
                                              refine sf_aload rfl ?_
                                              refine sf_iload rfl ?_
                                              refine sf_iconst sf_c2 (fun z3892 ez3892 => ?_)
                                              refine sf_iadd (by omega) (fun v3893 ev3893 => ?_)
                                              refine sf_sldk (x := x4) (k := 2) (by omega) (by omega) (by omega) ?_
                                              clear ev3893 ez3892
                                              refine sf_callv3 rfl (by omega) (by omega) ?_
                                              refine sf_rv Iw3805 rfl ?_
                                              refine sc_M_export Iw3805 (by rw [c3865]; rw [c3866]; exact f_22.2.2.2.2.2.2.1) (fun v3894 w3895 Iw3895 tw3895 q3896_0 q3896_1 => ?_)
                                              rw [c3864] at q3896_0
                                              rw [c3865] at q3896_0
                                              rw [c3866] at q3896_0
                                              rw [c3867] at q3896_0
                                              rw [c3863] at q3896_0
                                              rw [c3864] at q3896_1
                                              rw [c3865] at q3896_1
                                              rw [c3866] at q3896_1
                                              rw [c3867] at q3896_1
                                              rw [c3863] at q3896_1
                                              have c3897 := sf_mf tw3895 (p := 1) (j := 0) rfl
                                              have c3898 := sf_mf tw3895 (p := 71) (j := 1) rfl
                                              have c3899 := sf_mf tw3895 (p := 1) (j := 5) rfl
                                              have c3900 := sf_mf tw3895 (p := 71) (j := 5) rfl
                                              have c3901 := sf_mf tw3895 (p := 13) (j := 1) rfl
                                              have c3902 := sf_mf tw3895 (p := 71) (j := 10) rfl
                                              have c3903 := sf_mf tw3895 (p := 21) (j := 1) rfl
                                              have c3904 := sf_mf tw3895 (p := 71) (j := 18) rfl
                                              have c3905 := sf_mf tw3895 (p := 35) (j := 0) rfl
                                              have c3906 := sf_mf tw3895 (p := 71) (j := 35) rfl
                                              have c3907 := sf_ma tw3895 (p := 3) rfl
                                              have c3908 := sf_ma tw3895 (p := 72) rfl
                                              have c3909 := sf_mg tw3895 (p := 10) rfl
                                              have c3910 := sf_ma tw3895 (p := 93) rfl
                                              have c3911 := sf_mL tw3895 (p := 130) rfl
                                              have c3912 := sf_ma tw3895 (p := 2) rfl
                                              have c3913 := sf_ma tw3895 (p := 6) rfl
                                              have c3914 := sf_ma tw3895 (p := 75) rfl
                                              have c3915 := sf_ma tw3895 (p := 7) rfl
                                              have c3916 := sf_ma tw3895 (p := 76) rfl
                                              have c3917 := sf_ma tw3895 (p := 8) rfl
                                              have c3918 := sf_ma tw3895 (p := 77) rfl
                                              have c3919 := sf_ma tw3895 (p := 9) rfl
                                              have c3920 := sf_ma tw3895 (p := 78) rfl
                                              have c3921 := sf_ma tw3895 (p := 14) rfl
                                              have c3922 := sf_ma tw3895 (p := 79) rfl
                                              have c3923 := sf_ma tw3895 (p := 15) rfl
                                              have c3924 := sf_ma tw3895 (p := 80) rfl
                                              have c3925 := sf_ma tw3895 (p := 16) rfl
                                              have c3926 := sf_ma tw3895 (p := 81) rfl
                                              have c3927 := sf_ma tw3895 (p := 17) rfl
                                              have c3928 := sf_ma tw3895 (p := 82) rfl
                                              have c3929 := sf_ma tw3895 (p := 18) rfl
                                              have c3930 := sf_ma tw3895 (p := 83) rfl
                                              have c3931 := sf_ma tw3895 (p := 19) rfl
                                              have c3932 := sf_ma tw3895 (p := 84) rfl
                                              have c3933 := sf_ma tw3895 (p := 20) rfl
                                              have c3934 := sf_ma tw3895 (p := 85) rfl
                                              have c3935 := sf_ma tw3895 (p := 24) rfl
                                              have c3936 := sf_ma tw3895 (p := 86) rfl
                                              have c3937 := sf_ma tw3895 (p := 25) rfl
                                              have c3938 := sf_ma tw3895 (p := 87) rfl
                                              have c3939 := sf_ma tw3895 (p := 23) rfl
                                              have c3940 := sf_ma tw3895 (p := 88) rfl
                                              have c3941 := sf_ma tw3895 (p := 26) rfl
                                              have c3942 := sf_ma tw3895 (p := 89) rfl
                                              have c3943 := sf_ma tw3895 (p := 27) rfl
                                              have c3944 := sf_ma tw3895 (p := 90) rfl
                                              have c3945 := sf_ma tw3895 (p := 36) rfl
                                              have c3946 := sf_ma tw3895 (p := 102) rfl
                                              have c3947 := sf_ma tw3895 (p := 37) rfl
                                              have c3948 := sf_ma tw3895 (p := 103) rfl
                                              have c3949 := sf_mf tw3895 (p := 60) (j := 0) rfl
                                              have c3950 := sf_ma tw3895 (p := 61) rfl
                                              have c3951 := sf_ma tw3895 (p := 62) rfl
                                              have c3952 := sf_ma tw3895 (p := 63) rfl
                                              have c3953 := sf_ma tw3895 (p := 65) rfl
                                              have c3954 := sf_ma tw3895 (p := 66) rfl
                                              have c3955 := sf_mf tw3895 (p := 71) (j := 56) rfl
                                              have c3956 := sf_ma tw3895 (p := 121) rfl
                                              have c3957 := sf_ma tw3895 (p := 122) rfl
                                              have c3958 := sf_ma tw3895 (p := 125) rfl
                                              have c3959 := sf_ma tw3895 (p := 126) rfl
                                              have c3960 := sf_ma tw3895 (p := 38) rfl
                                              have c3961 := sf_ma tw3895 (p := 40) rfl
                                              have c3962 := sf_ma tw3895 (p := 41) rfl
                                              have c3963 := sf_ma tw3895 (p := 42) rfl
                                              have c3964 := sf_ma tw3895 (p := 43) rfl
                                              have c3965 := sf_ma tw3895 (p := 44) rfl
                                              have c3966 := sf_ma tw3895 (p := 47) rfl
                                              have c3967 := sf_ma tw3895 (p := 104) rfl
                                              have c3968 := sf_ma tw3895 (p := 106) rfl
                                              have c3969 := sf_ma tw3895 (p := 113) rfl
                                              have c3970 := sf_ma tw3895 (p := 107) rfl
                                              have c3971 := sf_ma tw3895 (p := 108) rfl
                                              have c3972 := sf_ma tw3895 (p := 110) rfl
                                              have c3973 := sf_ma tw3895 (p := 109) rfl
                                              have c3974 := sf_mf tw3895 (p := 71) (j := 41) rfl
                                              have c3975 := sf_ma tw3895 (p := 68) rfl
                                              have c3976 := sf_ma tw3895 (p := 69) rfl
                                              have c3977 := sf_ma tw3895 (p := 70) rfl
                                              have c3978 := sf_ma tw3895 (p := 127) rfl
                                              have c3979 := sf_ma tw3895 (p := 128) rfl
                                              have c3980 := sf_ma tw3895 (p := 129) rfl
                                              have G0 := q3896_0
                                              have G1 := q3896_1
                                              clear q3896_0 q3896_1
                                              have b40 := (sf_fb I_w (p := 71) (ci := 9) (j := 56) rfl rfl)
                                              have hSS := sl_SE f_22 (x := (xs (x4.toInt.toNat + 1)).toInt) (x' := (xs (x4.toInt.toNat + 1)).toInt) (y := 0) (y' := 0) b40.2 rfl rfl
                                              have hrc : v3804.toInt = (sf_f w3895 71 0).toInt := by omega
                                              have hRL := sl_RLT f_22 F1 G1 hrc rfl rfl (fun h9 => by omega)
                                              clear F1 G1
                                              refine sf_lstore (L' := [(5, .inl (.int v3804)), (0, .inl (.ref 100000)), (1, .inl (.ref 0)), (2, .inl (.ref 71)), (3, .inl (.ref 130)), (4, .inl (.int x4))]) rfl ?_
                                              show kt_W_law_1404 N xs K _ _ _ _ _
                                              refine sf_iinc (L' := [(6, .inl (.long v3894)), (5, .inl (.int v3804)), (0, .inl (.ref 100000)), (1, .inl (.ref 0)), (2, .inl (.ref 71)), (3, .inl (.ref 130))]) (x := x4) sf_c8 rfl rfl (by omega) (fun v3981 ev3981 => ?_)
                                              refine sf_can (L' := [(0, .inl (.ref 100000)), (1, .inl (.ref 0)), (2, .inl (.ref 71)), (3, .inl (.ref 130)), (4, .inl (.int v3981))]) rfl ?_
                                              exact ih _ _ _ _ Iw3895 (by omega) (by omega) (by omega) (by omega) (by rw [c3897, c3807]; rw [c3898, c3808]; rw [c3899, c3809]; rw [c3900, c3810]; rw [c3901, c3811]; rw [c3902, c3812]; rw [c3903, c3813]; rw [c3904, c3814]; rw [c3905, c3815]; rw [c3906, c3816]; omega) (by rw [c3907, c3817]; rw [c3908, c3818]; rw [c3898, c3808]; first | exact f_1 | exact hJ) (by rw [c3909, c3819]; rw [c3910, c3820]; first | exact f_2 | exact hK2) (by rw [c3912, c3821]; rw [c3908, c3818]; rw [c3898, c3808]; first | exact f_3 | exact hQ2) (by rw [c3913, c3822]; rw [c3914, c3823]; rw [c3900, c3810]; first | exact f_4 | exact hQ6) (by rw [c3915, c3824]; rw [c3916, c3825]; rw [c3900, c3810]; first | exact f_5 | exact hQ7) (by rw [c3917, c3826]; rw [c3918, c3827]; rw [c3900, c3810]; first | exact f_6 | exact hQ8) (by rw [c3919, c3828]; rw [c3920, c3829]; rw [c3900, c3810]; first | exact f_7 | exact hQ9) (by rw [c3921, c3830]; rw [c3922, c3831]; rw [c3902, c3812]; first | exact f_8 | exact hQ14) (by rw [c3923, c3832]; rw [c3924, c3833]; rw [c3902, c3812]; first | exact f_9 | exact hQ15) (by rw [c3925, c3834]; rw [c3926, c3835]; rw [c3902, c3812]; first | exact f_10 | exact hQ16) (by rw [c3927, c3836]; rw [c3928, c3837]; rw [c3902, c3812]; first | exact f_11 | exact hQ17) (by rw [c3929, c3838]; rw [c3930, c3839]; rw [c3902, c3812]; first | exact f_12 | exact hQ18) (by rw [c3931, c3840]; rw [c3932, c3841]; rw [c3902, c3812]; first | exact f_13 | exact hQ19) (by rw [c3933, c3842]; rw [c3934, c3843]; rw [c3902, c3812]; first | exact f_14 | exact hQ20) (by rw [c3935, c3844]; rw [c3936, c3845]; rw [c3904, c3814]; first | exact f_15 | exact hQ24) (by rw [c3937, c3846]; rw [c3938, c3847]; rw [c3904, c3814]; first | exact f_16 | exact hQ25) (by rw [c3939, c3848]; rw [c3940, c3849]; rw [c3904, c3814]; first | exact f_17 | exact hQ23) (by rw [c3941, c3850]; rw [c3942, c3851]; rw [c3904, c3814]; first | exact f_18 | exact hQ26) (by rw [c3943, c3852]; rw [c3944, c3853]; rw [c3904, c3814]; first | exact f_19 | exact hQ27) (by rw [c3945, c3854]; rw [c3946, c3855]; rw [c3906, c3816]; first | exact f_20 | exact hQ36) (by rw [c3947, c3856]; rw [c3948, c3857]; rw [c3906, c3816]; first | exact f_21 | exact hQ37) (by rw [c3949, c3858]; rw [c3955, c3863]; rw [c3950, c3859]; rw [c3951, c3860]; rw [c3952]; rw [c3953, c3861]; rw [c3954, c3862]; rw [c3956, c3864]; rw [c3957, c3865]; rw [c3958, c3867]; rw [c3959, c3868]; exact hRL) (by rw [c3960, c3869]; rw [c3967, c3876]; rw [c3961, c3870]; rw [c3968, c3877]; rw [c3963, c3872]; rw [c3970, c3879]; rw [c3964, c3873]; rw [c3971, c3880]; rw [c3966, c3875]; rw [c3973, c3882]; rw [c3965, c3874]; rw [c3972, c3881]; exact f_23) (by rw [c3961, c3870]; rw [c3960, c3869]; rw [c3962, c3871]; rw [c3969, c3878]; exact f_24) (by rw [c3946, c3855]; rw [c3948, c3857]; rw [c3968, c3877]; rw [c3906, c3816]; rw [c3974, c3883]; exact f_25) (by rw [c3968, c3877]; rw [c3906, c3816]; exact f_26) (by rw [c3975, c3884]; rw [c3978, c3887]; rw [c3976, c3885]; rw [c3979, c3888]; rw [c3977, c3886]; rw [c3980, c3889]; exact f_27) (by omega)
                                            · clear h3799
                                              refine sf_sw1 sf_c20 (fun h3982 => ?_) (fun h3982 => ?_)
                                              · refine sf_aload rfl ?_
                                                refine sf_aload rfl ?_
                                                refine sf_iload rfl ?_
                                                refine sf_iconst sf_c1 (fun z3983 ez3983 => ?_)
                                                refine sf_iadd (by omega) (fun v3984 ev3984 => ?_)
                                                refine sf_sldk (x := x4) (k := 1) (by omega) (by omega) (by omega) ?_
                                                clear ev3984 ez3983
                                                refine sf_aload rfl ?_
                                                refine sf_iload rfl ?_
                                                refine sf_iconst sf_c2 (fun z3985 ez3985 => ?_)
                                                refine sf_iadd (by omega) (fun v3986 ev3986 => ?_)
                                                refine sf_sldk (x := x4) (k := 2) (by omega) (by omega) (by omega) ?_
                                                clear ev3986 ez3985
                                                refine sf_aload rfl ?_
                                                refine sf_iload rfl ?_
                                                refine sf_iconst sf_c3 (fun z3987 ez3987 => ?_)
                                                refine sf_iadd (by omega) (fun v3988 ev3988 => ?_)
                                                refine sf_sldk (x := x4) (k := 3) (by omega) (by omega) (by omega) ?_
                                                clear ev3988 ez3987
                                                refine sf_aload rfl ?_
                                                refine sf_iload rfl ?_
                                                refine sf_iconst sf_c4 (fun z3989 ez3989 => ?_)
                                                refine sf_iadd (by omega) (fun v3990 ev3990 => ?_)
                                                refine sf_sldk (x := x4) (k := 4) (by omega) (by omega) (by omega) ?_
                                                clear ev3990 ez3989
                                                refine sf_aload rfl ?_
                                                refine sf_callv6 rfl (by omega) (by omega) ?_
                                                refine sc_W_work_0_130 I_w (by exact sl_Bq f_22.2.2.1 f_22.2.2.2.1 f_22.2.2.2.2.2.2.1) (fun v3991 w3992 Iw3992 tw3992 lv3991 uv3991 q3993_0 q3993_1 q3993_2 q3993_3 q3993_4 => ?_)
                                                have c3994 := sf_mf tw3992 (p := 1) (j := 0) rfl
                                                have c3995 := sf_mf tw3992 (p := 71) (j := 1) rfl
                                                have c3996 := sf_mf tw3992 (p := 1) (j := 5) rfl
                                                have c3997 := sf_mf tw3992 (p := 71) (j := 5) rfl
                                                have c3998 := sf_mf tw3992 (p := 13) (j := 1) rfl
                                                have c3999 := sf_mf tw3992 (p := 71) (j := 10) rfl
                                                have c4000 := sf_mf tw3992 (p := 21) (j := 1) rfl
                                                have c4001 := sf_mf tw3992 (p := 71) (j := 18) rfl
                                                have c4002 := sf_mf tw3992 (p := 35) (j := 0) rfl
                                                have c4003 := sf_mf tw3992 (p := 71) (j := 35) rfl
                                                have c4004 := sf_ma tw3992 (p := 3) rfl
                                                have c4005 := sf_ma tw3992 (p := 72) rfl
                                                have c4006 := sf_mg tw3992 (p := 10) rfl
                                                have c4007 := sf_ma tw3992 (p := 93) rfl
                                                have c4008 := sf_ma tw3992 (p := 2) rfl
                                                have c4009 := sf_ma tw3992 (p := 6) rfl
                                                have c4010 := sf_ma tw3992 (p := 75) rfl
                                                have c4011 := sf_ma tw3992 (p := 7) rfl
                                                have c4012 := sf_ma tw3992 (p := 76) rfl
                                                have c4013 := sf_ma tw3992 (p := 8) rfl
                                                have c4014 := sf_ma tw3992 (p := 77) rfl
                                                have c4015 := sf_ma tw3992 (p := 9) rfl
                                                have c4016 := sf_ma tw3992 (p := 78) rfl
                                                have c4017 := sf_ma tw3992 (p := 14) rfl
                                                have c4018 := sf_ma tw3992 (p := 79) rfl
                                                have c4019 := sf_ma tw3992 (p := 15) rfl
                                                have c4020 := sf_ma tw3992 (p := 80) rfl
                                                have c4021 := sf_ma tw3992 (p := 16) rfl
                                                have c4022 := sf_ma tw3992 (p := 81) rfl
                                                have c4023 := sf_ma tw3992 (p := 17) rfl
                                                have c4024 := sf_ma tw3992 (p := 82) rfl
                                                have c4025 := sf_ma tw3992 (p := 18) rfl
                                                have c4026 := sf_ma tw3992 (p := 83) rfl
                                                have c4027 := sf_ma tw3992 (p := 19) rfl
                                                have c4028 := sf_ma tw3992 (p := 84) rfl
                                                have c4029 := sf_ma tw3992 (p := 20) rfl
                                                have c4030 := sf_ma tw3992 (p := 85) rfl
                                                have c4031 := sf_ma tw3992 (p := 24) rfl
                                                have c4032 := sf_ma tw3992 (p := 86) rfl
                                                have c4033 := sf_ma tw3992 (p := 25) rfl
                                                have c4034 := sf_ma tw3992 (p := 87) rfl
                                                have c4035 := sf_ma tw3992 (p := 23) rfl
                                                have c4036 := sf_ma tw3992 (p := 88) rfl
                                                have c4037 := sf_ma tw3992 (p := 26) rfl
                                                have c4038 := sf_ma tw3992 (p := 89) rfl
                                                have c4039 := sf_ma tw3992 (p := 27) rfl
                                                have c4040 := sf_ma tw3992 (p := 90) rfl
                                                have c4041 := sf_ma tw3992 (p := 36) rfl
                                                have c4042 := sf_ma tw3992 (p := 102) rfl
                                                have c4043 := sf_ma tw3992 (p := 37) rfl
                                                have c4044 := sf_ma tw3992 (p := 103) rfl
                                                have c4045 := sf_mf tw3992 (p := 71) (j := 56) rfl
                                                have c4046 := sf_ma tw3992 (p := 121) rfl
                                                have c4047 := sf_ma tw3992 (p := 122) rfl
                                                have c4048 := sf_ma tw3992 (p := 123) rfl
                                                have c4049 := sf_ma tw3992 (p := 125) rfl
                                                have c4050 := sf_ma tw3992 (p := 126) rfl
                                                have c4051 := sf_ma tw3992 (p := 38) rfl
                                                have c4052 := sf_ma tw3992 (p := 40) rfl
                                                have c4053 := sf_ma tw3992 (p := 41) rfl
                                                have c4054 := sf_ma tw3992 (p := 42) rfl
                                                have c4055 := sf_ma tw3992 (p := 43) rfl
                                                have c4056 := sf_ma tw3992 (p := 44) rfl
                                                have c4057 := sf_ma tw3992 (p := 47) rfl
                                                have c4058 := sf_ma tw3992 (p := 104) rfl
                                                have c4059 := sf_ma tw3992 (p := 106) rfl
                                                have c4060 := sf_ma tw3992 (p := 113) rfl
                                                have c4061 := sf_ma tw3992 (p := 107) rfl
                                                have c4062 := sf_ma tw3992 (p := 108) rfl
                                                have c4063 := sf_ma tw3992 (p := 110) rfl
                                                have c4064 := sf_ma tw3992 (p := 109) rfl
                                                have c4065 := sf_mf tw3992 (p := 71) (j := 41) rfl
                                                have c4066 := sf_ma tw3992 (p := 68) rfl
                                                have c4067 := sf_ma tw3992 (p := 127) rfl
                                                have c4068 := sf_ma tw3992 (p := 128) rfl
                                                have c4069 := sf_ma tw3992 (p := 129) rfl
                                                have F0 := q3993_0
                                                have F1 := q3993_1
                                                have F2 := q3993_2
                                                have F3 := q3993_3
                                                have F4 := q3993_4
                                                clear q3993_0 q3993_1 q3993_2 q3993_3 q3993_4
                                                refine sf_istore (L' := [(0, .inl (.ref 100000)), (1, .inl (.ref 0)), (2, .inl (.ref 71)), (3, .inl (.ref 130)), (4, .inl (.int x4))]) rfl ?_
                                                refine sf_aload rfl ?_
                                                refine sf_aload rfl ?_
                                                refine sf_iload rfl ?_
                                                refine sf_iconst sf_c1 (fun z4070 ez4070 => ?_)
                                                refine sf_iadd (by omega) (fun v4071 ev4071 => ?_)
                                                refine sf_sldk (x := x4) (k := 1) (by omega) (by omega) (by omega) ?_
                                                clear ev4071 ez4070
                                                refine sf_aload rfl ?_
                                                refine sf_iload rfl ?_
                                                refine sf_iconst sf_c2 (fun z4072 ez4072 => ?_)
                                                refine sf_iadd (by omega) (fun v4073 ev4073 => ?_)
                                                refine sf_sldk (x := x4) (k := 2) (by omega) (by omega) (by omega) ?_
                                                clear ev4073 ez4072
                                                refine sf_aload rfl ?_
                                                refine sf_iload rfl ?_
                                                refine sf_iconst sf_c3 (fun z4074 ez4074 => ?_)
                                                refine sf_iadd (by omega) (fun v4075 ev4075 => ?_)
                                                refine sf_sldk (x := x4) (k := 3) (by omega) (by omega) (by omega) ?_
                                                clear ev4075 ez4074
                                                refine sf_aload rfl ?_
                                                refine sf_iload rfl ?_
                                                refine sf_iconst sf_c4 (fun z4076 ez4076 => ?_)
                                                refine sf_iadd (by omega) (fun v4077 ev4077 => ?_)
                                                refine sf_sldk (x := x4) (k := 4) (by omega) (by omega) (by omega) ?_
                                                clear ev4077 ez4076
                                                refine sf_callv5 rfl (by omega) (by omega) ?_
                                                refine sf_rv Iw3992 rfl ?_
                                                refine sc_M_work Iw3992 (by rw [c4047]; rw [c4048]; exact f_22.2.2.2.2.2.2.1) (fun v4078 w4079 Iw4079 tw4079 lv4078 uv4078 q4080_0 q4080_1 q4080_2 q4080_3 q4080_4 => ?_)
                                                rw [c4046] at q4080_0
                                                rw [c4047] at q4080_0
                                                rw [c4048] at q4080_0
                                                rw [c4049] at q4080_0
                                                rw [c4045] at q4080_0
                                                rw [c4046] at q4080_1
                                                rw [c4047] at q4080_1
                                                rw [c4048] at q4080_1
                                                rw [c4049] at q4080_1
                                                rw [c4045] at q4080_1
                                                rw [c4068] at q4080_2
                                                rw [c4069] at q4080_3
                                                rw [c4046] at q4080_4
                                                rw [c4047] at q4080_4
                                                rw [c4049] at q4080_4
                                                rw [c4050] at q4080_4
                                                rw [c4045] at q4080_4
                                                have c4081 := sf_mf tw4079 (p := 1) (j := 0) rfl
                                                have c4082 := sf_mf tw4079 (p := 71) (j := 1) rfl
                                                have c4083 := sf_mf tw4079 (p := 1) (j := 5) rfl
                                                have c4084 := sf_mf tw4079 (p := 71) (j := 5) rfl
                                                have c4085 := sf_mf tw4079 (p := 13) (j := 1) rfl
                                                have c4086 := sf_mf tw4079 (p := 71) (j := 10) rfl
                                                have c4087 := sf_mf tw4079 (p := 21) (j := 1) rfl
                                                have c4088 := sf_mf tw4079 (p := 71) (j := 18) rfl
                                                have c4089 := sf_mf tw4079 (p := 35) (j := 0) rfl
                                                have c4090 := sf_mf tw4079 (p := 71) (j := 35) rfl
                                                have c4091 := sf_ma tw4079 (p := 3) rfl
                                                have c4092 := sf_ma tw4079 (p := 72) rfl
                                                have c4093 := sf_mg tw4079 (p := 10) rfl
                                                have c4094 := sf_ma tw4079 (p := 93) rfl
                                                have c4095 := sf_mL tw4079 (p := 130) rfl
                                                have c4096 := sf_ma tw4079 (p := 2) rfl
                                                have c4097 := sf_ma tw4079 (p := 6) rfl
                                                have c4098 := sf_ma tw4079 (p := 75) rfl
                                                have c4099 := sf_ma tw4079 (p := 7) rfl
                                                have c4100 := sf_ma tw4079 (p := 76) rfl
                                                have c4101 := sf_ma tw4079 (p := 8) rfl
                                                have c4102 := sf_ma tw4079 (p := 77) rfl
                                                have c4103 := sf_ma tw4079 (p := 9) rfl
                                                have c4104 := sf_ma tw4079 (p := 78) rfl
                                                have c4105 := sf_ma tw4079 (p := 14) rfl
                                                have c4106 := sf_ma tw4079 (p := 79) rfl
                                                have c4107 := sf_ma tw4079 (p := 15) rfl
                                                have c4108 := sf_ma tw4079 (p := 80) rfl
                                                have c4109 := sf_ma tw4079 (p := 16) rfl
                                                have c4110 := sf_ma tw4079 (p := 81) rfl
                                                have c4111 := sf_ma tw4079 (p := 17) rfl
                                                have c4112 := sf_ma tw4079 (p := 82) rfl
                                                have c4113 := sf_ma tw4079 (p := 18) rfl
                                                have c4114 := sf_ma tw4079 (p := 83) rfl
                                                have c4115 := sf_ma tw4079 (p := 19) rfl
                                                have c4116 := sf_ma tw4079 (p := 84) rfl
                                                have c4117 := sf_ma tw4079 (p := 20) rfl
                                                have c4118 := sf_ma tw4079 (p := 85) rfl
                                                have c4119 := sf_ma tw4079 (p := 24) rfl
                                                have c4120 := sf_ma tw4079 (p := 86) rfl
                                                have c4121 := sf_ma tw4079 (p := 25) rfl
                                                have c4122 := sf_ma tw4079 (p := 87) rfl
                                                have c4123 := sf_ma tw4079 (p := 23) rfl
                                                have c4124 := sf_ma tw4079 (p := 88) rfl
                                                have c4125 := sf_ma tw4079 (p := 26) rfl
                                                have c4126 := sf_ma tw4079 (p := 89) rfl
                                                have c4127 := sf_ma tw4079 (p := 27) rfl
                                                have c4128 := sf_ma tw4079 (p := 90) rfl
                                                have c4129 := sf_ma tw4079 (p := 36) rfl
                                                have c4130 := sf_ma tw4079 (p := 102) rfl
                                                have c4131 := sf_ma tw4079 (p := 37) rfl
                                                have c4132 := sf_ma tw4079 (p := 103) rfl
                                                have c4133 := sf_mf tw4079 (p := 60) (j := 0) rfl
                                                have c4134 := sf_ma tw4079 (p := 61) rfl
                                                have c4135 := sf_ma tw4079 (p := 62) rfl
                                                have c4136 := sf_ma tw4079 (p := 63) rfl
                                                have c4137 := sf_ma tw4079 (p := 65) rfl
                                                have c4138 := sf_ma tw4079 (p := 66) rfl
                                                have c4139 := sf_ma tw4079 (p := 38) rfl
                                                have c4140 := sf_ma tw4079 (p := 40) rfl
                                                have c4141 := sf_ma tw4079 (p := 41) rfl
                                                have c4142 := sf_ma tw4079 (p := 42) rfl
                                                have c4143 := sf_ma tw4079 (p := 43) rfl
                                                have c4144 := sf_ma tw4079 (p := 44) rfl
                                                have c4145 := sf_ma tw4079 (p := 47) rfl
                                                have c4146 := sf_ma tw4079 (p := 104) rfl
                                                have c4147 := sf_ma tw4079 (p := 106) rfl
                                                have c4148 := sf_ma tw4079 (p := 113) rfl
                                                have c4149 := sf_ma tw4079 (p := 107) rfl
                                                have c4150 := sf_ma tw4079 (p := 108) rfl
                                                have c4151 := sf_ma tw4079 (p := 110) rfl
                                                have c4152 := sf_ma tw4079 (p := 109) rfl
                                                have c4153 := sf_mf tw4079 (p := 71) (j := 41) rfl
                                                have c4154 := sf_ma tw4079 (p := 68) rfl
                                                have c4155 := sf_ma tw4079 (p := 69) rfl
                                                have c4156 := sf_ma tw4079 (p := 70) rfl
                                                have c4157 := sf_ma tw4079 (p := 127) rfl
                                                have G0 := q4080_0
                                                have G1 := q4080_1
                                                have G2 := q4080_2
                                                have G3 := q4080_3
                                                have G4 := q4080_4
                                                clear q4080_0 q4080_1 q4080_2 q4080_3 q4080_4
                                                have b40 := (sf_fb I_w (p := 71) (ci := 9) (j := 56) rfl rfl)
                                                have hSS := sl_SE f_22 (x := (xs (x4.toInt.toNat + 1)).toInt) (x' := (xs (x4.toInt.toNat + 1)).toInt) (y := 1) (y' := 1) b40.2 rfl rfl
                                                have hcc := f_22.1
                                                have hrc : v3991.toInt = (sf_f w4079 71 0).toInt := by omega
                                                have hRL1 := sl_RLT f_22 F1 G1 hrc rfl rfl (fun h9 => by omega)
                                                have hRL := sl_WRK hRL1 (by omega) F4 G4 hrc rfl rfl (fun h9 => by omega)
                                                have hRG : sf_Q 16 (sf_a w 68) (sf_a w 127) ∧ sf_Q 16 (sf_a w3992 69) (sf_a w4079 128) ∧ sf_Q 16 (sf_a w3992 70) (sf_a w4079 129) := ⟨f_27.1, sl_QV f_27.2.1 F2 G2 hrc rfl rfl (fun h9 => by omega), sl_QV f_27.2.2 F3 G3 hrc rfl rfl (fun h9 => by omega)⟩
                                                clear F1 F2 F3 F4 G1 G2 G3 G4 hRL1
                                                refine sf_istore (L' := [(5, .inl (.int v3991)), (0, .inl (.ref 100000)), (1, .inl (.ref 0)), (2, .inl (.ref 71)), (3, .inl (.ref 130)), (4, .inl (.int x4))]) rfl ?_
                                                show kt_W_law_1404 N xs K _ _ _ _ _
                                                refine sf_iinc (L' := [(6, .inl (.int v4078)), (5, .inl (.int v3991)), (0, .inl (.ref 100000)), (1, .inl (.ref 0)), (2, .inl (.ref 71)), (3, .inl (.ref 130))]) (x := x4) sf_c8 rfl rfl (by omega) (fun v4158 ev4158 => ?_)
                                                refine sf_can (L' := [(0, .inl (.ref 100000)), (1, .inl (.ref 0)), (2, .inl (.ref 71)), (3, .inl (.ref 130)), (4, .inl (.int v4158))]) rfl ?_
                                                exact ih _ _ _ _ Iw4079 (by omega) (by omega) (by omega) (by omega) (by rw [c4081, c3994]; rw [c4082, c3995]; rw [c4083, c3996]; rw [c4084, c3997]; rw [c4085, c3998]; rw [c4086, c3999]; rw [c4087, c4000]; rw [c4088, c4001]; rw [c4089, c4002]; rw [c4090, c4003]; omega) (by rw [c4091, c4004]; rw [c4092, c4005]; rw [c4082, c3995]; first | exact f_1 | exact hJ) (by rw [c4093, c4006]; rw [c4094, c4007]; first | exact f_2 | exact hK2) (by rw [c4096, c4008]; rw [c4092, c4005]; rw [c4082, c3995]; first | exact f_3 | exact hQ2) (by rw [c4097, c4009]; rw [c4098, c4010]; rw [c4084, c3997]; first | exact f_4 | exact hQ6) (by rw [c4099, c4011]; rw [c4100, c4012]; rw [c4084, c3997]; first | exact f_5 | exact hQ7) (by rw [c4101, c4013]; rw [c4102, c4014]; rw [c4084, c3997]; first | exact f_6 | exact hQ8) (by rw [c4103, c4015]; rw [c4104, c4016]; rw [c4084, c3997]; first | exact f_7 | exact hQ9) (by rw [c4105, c4017]; rw [c4106, c4018]; rw [c4086, c3999]; first | exact f_8 | exact hQ14) (by rw [c4107, c4019]; rw [c4108, c4020]; rw [c4086, c3999]; first | exact f_9 | exact hQ15) (by rw [c4109, c4021]; rw [c4110, c4022]; rw [c4086, c3999]; first | exact f_10 | exact hQ16) (by rw [c4111, c4023]; rw [c4112, c4024]; rw [c4086, c3999]; first | exact f_11 | exact hQ17) (by rw [c4113, c4025]; rw [c4114, c4026]; rw [c4086, c3999]; first | exact f_12 | exact hQ18) (by rw [c4115, c4027]; rw [c4116, c4028]; rw [c4086, c3999]; first | exact f_13 | exact hQ19) (by rw [c4117, c4029]; rw [c4118, c4030]; rw [c4086, c3999]; first | exact f_14 | exact hQ20) (by rw [c4119, c4031]; rw [c4120, c4032]; rw [c4088, c4001]; first | exact f_15 | exact hQ24) (by rw [c4121, c4033]; rw [c4122, c4034]; rw [c4088, c4001]; first | exact f_16 | exact hQ25) (by rw [c4123, c4035]; rw [c4124, c4036]; rw [c4088, c4001]; first | exact f_17 | exact hQ23) (by rw [c4125, c4037]; rw [c4126, c4038]; rw [c4088, c4001]; first | exact f_18 | exact hQ26) (by rw [c4127, c4039]; rw [c4128, c4040]; rw [c4088, c4001]; first | exact f_19 | exact hQ27) (by rw [c4129, c4041]; rw [c4130, c4042]; rw [c4090, c4003]; first | exact f_20 | exact hQ36) (by rw [c4131, c4043]; rw [c4132, c4044]; rw [c4090, c4003]; first | exact f_21 | exact hQ37) (by rw [c4133]; rw [c4134]; rw [c4135]; rw [c4136]; rw [c4137]; rw [c4138]; exact hRL) (by rw [c4139, c4051]; rw [c4146, c4058]; rw [c4140, c4052]; rw [c4147, c4059]; rw [c4142, c4054]; rw [c4149, c4061]; rw [c4143, c4055]; rw [c4150, c4062]; rw [c4145, c4057]; rw [c4152, c4064]; rw [c4144, c4056]; rw [c4151, c4063]; exact f_23) (by rw [c4140, c4052]; rw [c4139, c4051]; rw [c4141, c4053]; rw [c4148, c4060]; exact f_24) (by rw [c4130, c4042]; rw [c4132, c4044]; rw [c4147, c4059]; rw [c4090, c4003]; rw [c4153, c4065]; exact f_25) (by rw [c4147, c4059]; rw [c4090, c4003]; exact f_26) (by rw [c4154, c4066]; rw [c4157, c4067]; rw [c4155]; rw [c4156]; exact hRG) (by omega)
                                              · clear h3982
                                                refine sf_sw1 sf_c21 (fun h4159 => ?_) (fun h4159 => ?_)
                                                · refine sf_aload rfl ?_
                                                  refine sf_aload rfl ?_
                                                  refine sf_iload rfl ?_
                                                  refine sf_iconst sf_c1 (fun z4160 ez4160 => ?_)
                                                  refine sf_iadd (by omega) (fun v4161 ev4161 => ?_)
                                                  refine sf_sldk (x := x4) (k := 1) (by omega) (by omega) (by omega) ?_
                                                  clear ev4161 ez4160
                                                  refine sf_aload rfl ?_
                                                  refine sf_iload rfl ?_
                                                  refine sf_iconst sf_c2 (fun z4162 ez4162 => ?_)
                                                  refine sf_iadd (by omega) (fun v4163 ev4163 => ?_)
                                                  refine sf_sldk (x := x4) (k := 2) (by omega) (by omega) (by omega) ?_
                                                  clear ev4163 ez4162
                                                  refine sf_aload rfl ?_
                                                  refine sf_callv4 rfl (by omega) (by omega) ?_
                                                  refine sc_W_lot_0_130 I_w  (fun v4164 w4165 Iw4165 tw4165 lv4164 uv4164 => ?_)
                                                  have c4167 := sf_mf tw4165 (p := 1) (j := 0) rfl
                                                  have c4168 := sf_mf tw4165 (p := 71) (j := 1) rfl
                                                  have c4169 := sf_mf tw4165 (p := 1) (j := 5) rfl
                                                  have c4170 := sf_mf tw4165 (p := 71) (j := 5) rfl
                                                  have c4171 := sf_mf tw4165 (p := 13) (j := 1) rfl
                                                  have c4172 := sf_mf tw4165 (p := 71) (j := 10) rfl
                                                  have c4173 := sf_mf tw4165 (p := 21) (j := 1) rfl
                                                  have c4174 := sf_mf tw4165 (p := 71) (j := 18) rfl
                                                  have c4175 := sf_mf tw4165 (p := 35) (j := 0) rfl
                                                  have c4176 := sf_mf tw4165 (p := 71) (j := 35) rfl
                                                  have c4177 := sf_ma tw4165 (p := 3) rfl
                                                  have c4178 := sf_ma tw4165 (p := 72) rfl
                                                  have c4179 := sf_mg tw4165 (p := 10) rfl
                                                  have c4180 := sf_ma tw4165 (p := 93) rfl
                                                  have c4181 := sf_ma tw4165 (p := 2) rfl
                                                  have c4182 := sf_ma tw4165 (p := 6) rfl
                                                  have c4183 := sf_ma tw4165 (p := 75) rfl
                                                  have c4184 := sf_ma tw4165 (p := 7) rfl
                                                  have c4185 := sf_ma tw4165 (p := 76) rfl
                                                  have c4186 := sf_ma tw4165 (p := 8) rfl
                                                  have c4187 := sf_ma tw4165 (p := 77) rfl
                                                  have c4188 := sf_ma tw4165 (p := 9) rfl
                                                  have c4189 := sf_ma tw4165 (p := 78) rfl
                                                  have c4190 := sf_ma tw4165 (p := 14) rfl
                                                  have c4191 := sf_ma tw4165 (p := 79) rfl
                                                  have c4192 := sf_ma tw4165 (p := 15) rfl
                                                  have c4193 := sf_ma tw4165 (p := 80) rfl
                                                  have c4194 := sf_ma tw4165 (p := 16) rfl
                                                  have c4195 := sf_ma tw4165 (p := 81) rfl
                                                  have c4196 := sf_ma tw4165 (p := 17) rfl
                                                  have c4197 := sf_ma tw4165 (p := 82) rfl
                                                  have c4198 := sf_ma tw4165 (p := 18) rfl
                                                  have c4199 := sf_ma tw4165 (p := 83) rfl
                                                  have c4200 := sf_ma tw4165 (p := 19) rfl
                                                  have c4201 := sf_ma tw4165 (p := 84) rfl
                                                  have c4202 := sf_ma tw4165 (p := 20) rfl
                                                  have c4203 := sf_ma tw4165 (p := 85) rfl
                                                  have c4204 := sf_ma tw4165 (p := 24) rfl
                                                  have c4205 := sf_ma tw4165 (p := 86) rfl
                                                  have c4206 := sf_ma tw4165 (p := 25) rfl
                                                  have c4207 := sf_ma tw4165 (p := 87) rfl
                                                  have c4208 := sf_ma tw4165 (p := 23) rfl
                                                  have c4209 := sf_ma tw4165 (p := 88) rfl
                                                  have c4210 := sf_ma tw4165 (p := 26) rfl
                                                  have c4211 := sf_ma tw4165 (p := 89) rfl
                                                  have c4212 := sf_ma tw4165 (p := 27) rfl
                                                  have c4213 := sf_ma tw4165 (p := 90) rfl
                                                  have c4214 := sf_ma tw4165 (p := 36) rfl
                                                  have c4215 := sf_ma tw4165 (p := 102) rfl
                                                  have c4216 := sf_ma tw4165 (p := 37) rfl
                                                  have c4217 := sf_ma tw4165 (p := 103) rfl
                                                  have c4218 := sf_mf tw4165 (p := 60) (j := 0) rfl
                                                  have c4219 := sf_ma tw4165 (p := 61) rfl
                                                  have c4220 := sf_ma tw4165 (p := 62) rfl
                                                  have c4221 := sf_ma tw4165 (p := 63) rfl
                                                  have c4222 := sf_ma tw4165 (p := 65) rfl
                                                  have c4223 := sf_ma tw4165 (p := 66) rfl
                                                  have c4224 := sf_mf tw4165 (p := 71) (j := 56) rfl
                                                  have c4225 := sf_ma tw4165 (p := 121) rfl
                                                  have c4226 := sf_ma tw4165 (p := 122) rfl
                                                  have c4227 := sf_ma tw4165 (p := 123) rfl
                                                  have c4228 := sf_ma tw4165 (p := 125) rfl
                                                  have c4229 := sf_ma tw4165 (p := 126) rfl
                                                  have c4230 := sf_ma tw4165 (p := 38) rfl
                                                  have c4231 := sf_ma tw4165 (p := 40) rfl
                                                  have c4232 := sf_ma tw4165 (p := 41) rfl
                                                  have c4233 := sf_ma tw4165 (p := 42) rfl
                                                  have c4234 := sf_ma tw4165 (p := 43) rfl
                                                  have c4235 := sf_ma tw4165 (p := 44) rfl
                                                  have c4236 := sf_ma tw4165 (p := 47) rfl
                                                  have c4237 := sf_ma tw4165 (p := 104) rfl
                                                  have c4238 := sf_ma tw4165 (p := 106) rfl
                                                  have c4239 := sf_ma tw4165 (p := 113) rfl
                                                  have c4240 := sf_ma tw4165 (p := 107) rfl
                                                  have c4241 := sf_ma tw4165 (p := 108) rfl
                                                  have c4242 := sf_ma tw4165 (p := 110) rfl
                                                  have c4243 := sf_ma tw4165 (p := 109) rfl
                                                  have c4244 := sf_mf tw4165 (p := 71) (j := 41) rfl
                                                  have c4245 := sf_ma tw4165 (p := 68) rfl
                                                  have c4246 := sf_ma tw4165 (p := 69) rfl
                                                  have c4247 := sf_ma tw4165 (p := 70) rfl
                                                  have c4248 := sf_ma tw4165 (p := 127) rfl
                                                  have c4249 := sf_ma tw4165 (p := 128) rfl
                                                  have c4250 := sf_ma tw4165 (p := 129) rfl
                                                  refine sf_istore (L' := [(0, .inl (.ref 100000)), (1, .inl (.ref 0)), (2, .inl (.ref 71)), (3, .inl (.ref 130)), (4, .inl (.int x4))]) rfl ?_
                                                  refine sf_aload rfl ?_
                                                  refine sf_aload rfl ?_
                                                  refine sf_iload rfl ?_
                                                  refine sf_iconst sf_c1 (fun z4251 ez4251 => ?_)
                                                  refine sf_iadd (by omega) (fun v4252 ev4252 => ?_)
                                                  refine sf_sldk (x := x4) (k := 1) (by omega) (by omega) (by omega) ?_
                                                  clear ev4252 ez4251
                                                  refine sf_aload rfl ?_
                                                  refine sf_iload rfl ?_
                                                  refine sf_iconst sf_c2 (fun z4253 ez4253 => ?_)
                                                  refine sf_iadd (by omega) (fun v4254 ev4254 => ?_)
                                                  refine sf_sldk (x := x4) (k := 2) (by omega) (by omega) (by omega) ?_
                                                  clear ev4254 ez4253
                                                  refine sf_callv3 rfl (by omega) (by omega) ?_
                                                  refine sf_rv Iw4165 rfl ?_
                                                  refine sc_M_lot Iw4165  (fun v4255 w4256 Iw4256 tw4256 => ?_)
                                                  have c4258 := sf_mf tw4256 (p := 1) (j := 0) rfl
                                                  have c4259 := sf_mf tw4256 (p := 71) (j := 1) rfl
                                                  have c4260 := sf_mf tw4256 (p := 1) (j := 5) rfl
                                                  have c4261 := sf_mf tw4256 (p := 71) (j := 5) rfl
                                                  have c4262 := sf_mf tw4256 (p := 13) (j := 1) rfl
                                                  have c4263 := sf_mf tw4256 (p := 71) (j := 10) rfl
                                                  have c4264 := sf_mf tw4256 (p := 21) (j := 1) rfl
                                                  have c4265 := sf_mf tw4256 (p := 71) (j := 18) rfl
                                                  have c4266 := sf_mf tw4256 (p := 35) (j := 0) rfl
                                                  have c4267 := sf_mf tw4256 (p := 71) (j := 35) rfl
                                                  have c4268 := sf_ma tw4256 (p := 3) rfl
                                                  have c4269 := sf_ma tw4256 (p := 72) rfl
                                                  have c4270 := sf_mg tw4256 (p := 10) rfl
                                                  have c4271 := sf_ma tw4256 (p := 93) rfl
                                                  have c4272 := sf_mL tw4256 (p := 130) rfl
                                                  have c4273 := sf_ma tw4256 (p := 2) rfl
                                                  have c4274 := sf_ma tw4256 (p := 6) rfl
                                                  have c4275 := sf_ma tw4256 (p := 75) rfl
                                                  have c4276 := sf_ma tw4256 (p := 7) rfl
                                                  have c4277 := sf_ma tw4256 (p := 76) rfl
                                                  have c4278 := sf_ma tw4256 (p := 8) rfl
                                                  have c4279 := sf_ma tw4256 (p := 77) rfl
                                                  have c4280 := sf_ma tw4256 (p := 9) rfl
                                                  have c4281 := sf_ma tw4256 (p := 78) rfl
                                                  have c4282 := sf_ma tw4256 (p := 14) rfl
                                                  have c4283 := sf_ma tw4256 (p := 79) rfl
                                                  have c4284 := sf_ma tw4256 (p := 15) rfl
                                                  have c4285 := sf_ma tw4256 (p := 80) rfl
                                                  have c4286 := sf_ma tw4256 (p := 16) rfl
                                                  have c4287 := sf_ma tw4256 (p := 81) rfl
                                                  have c4288 := sf_ma tw4256 (p := 17) rfl
                                                  have c4289 := sf_ma tw4256 (p := 82) rfl
                                                  have c4290 := sf_ma tw4256 (p := 18) rfl
                                                  have c4291 := sf_ma tw4256 (p := 83) rfl
                                                  have c4292 := sf_ma tw4256 (p := 19) rfl
                                                  have c4293 := sf_ma tw4256 (p := 84) rfl
                                                  have c4294 := sf_ma tw4256 (p := 20) rfl
                                                  have c4295 := sf_ma tw4256 (p := 85) rfl
                                                  have c4296 := sf_ma tw4256 (p := 24) rfl
                                                  have c4297 := sf_ma tw4256 (p := 86) rfl
                                                  have c4298 := sf_ma tw4256 (p := 25) rfl
                                                  have c4299 := sf_ma tw4256 (p := 87) rfl
                                                  have c4300 := sf_ma tw4256 (p := 23) rfl
                                                  have c4301 := sf_ma tw4256 (p := 88) rfl
                                                  have c4302 := sf_ma tw4256 (p := 26) rfl
                                                  have c4303 := sf_ma tw4256 (p := 89) rfl
                                                  have c4304 := sf_ma tw4256 (p := 27) rfl
                                                  have c4305 := sf_ma tw4256 (p := 90) rfl
                                                  have c4306 := sf_ma tw4256 (p := 36) rfl
                                                  have c4307 := sf_ma tw4256 (p := 102) rfl
                                                  have c4308 := sf_ma tw4256 (p := 37) rfl
                                                  have c4309 := sf_ma tw4256 (p := 103) rfl
                                                  have c4310 := sf_mf tw4256 (p := 60) (j := 0) rfl
                                                  have c4311 := sf_ma tw4256 (p := 61) rfl
                                                  have c4312 := sf_ma tw4256 (p := 62) rfl
                                                  have c4313 := sf_ma tw4256 (p := 63) rfl
                                                  have c4314 := sf_ma tw4256 (p := 65) rfl
                                                  have c4315 := sf_ma tw4256 (p := 66) rfl
                                                  have c4316 := sf_mf tw4256 (p := 71) (j := 56) rfl
                                                  have c4317 := sf_ma tw4256 (p := 121) rfl
                                                  have c4318 := sf_ma tw4256 (p := 122) rfl
                                                  have c4319 := sf_ma tw4256 (p := 123) rfl
                                                  have c4320 := sf_ma tw4256 (p := 125) rfl
                                                  have c4321 := sf_ma tw4256 (p := 126) rfl
                                                  have c4322 := sf_ma tw4256 (p := 38) rfl
                                                  have c4323 := sf_ma tw4256 (p := 40) rfl
                                                  have c4324 := sf_ma tw4256 (p := 41) rfl
                                                  have c4325 := sf_ma tw4256 (p := 42) rfl
                                                  have c4326 := sf_ma tw4256 (p := 43) rfl
                                                  have c4327 := sf_ma tw4256 (p := 44) rfl
                                                  have c4328 := sf_ma tw4256 (p := 47) rfl
                                                  have c4329 := sf_ma tw4256 (p := 104) rfl
                                                  have c4330 := sf_ma tw4256 (p := 106) rfl
                                                  have c4331 := sf_ma tw4256 (p := 113) rfl
                                                  have c4332 := sf_ma tw4256 (p := 107) rfl
                                                  have c4333 := sf_ma tw4256 (p := 108) rfl
                                                  have c4334 := sf_ma tw4256 (p := 110) rfl
                                                  have c4335 := sf_ma tw4256 (p := 109) rfl
                                                  have c4336 := sf_mf tw4256 (p := 71) (j := 41) rfl
                                                  have c4337 := sf_ma tw4256 (p := 68) rfl
                                                  have c4338 := sf_ma tw4256 (p := 69) rfl
                                                  have c4339 := sf_ma tw4256 (p := 70) rfl
                                                  have c4340 := sf_ma tw4256 (p := 127) rfl
                                                  have c4341 := sf_ma tw4256 (p := 128) rfl
                                                  have c4342 := sf_ma tw4256 (p := 129) rfl
                                                  refine sf_lstore (L' := [(5, .inl (.int v4164)), (0, .inl (.ref 100000)), (1, .inl (.ref 0)), (2, .inl (.ref 71)), (3, .inl (.ref 130)), (4, .inl (.int x4))]) rfl ?_
                                                  show kt_W_law_1404 N xs K _ _ _ _ _
                                                  refine sf_iinc (L' := [(6, .inl (.long v4255)), (5, .inl (.int v4164)), (0, .inl (.ref 100000)), (1, .inl (.ref 0)), (2, .inl (.ref 71)), (3, .inl (.ref 130))]) (x := x4) sf_c8 rfl rfl (by omega) (fun v4343 ev4343 => ?_)
                                                  refine sf_can (L' := [(0, .inl (.ref 100000)), (1, .inl (.ref 0)), (2, .inl (.ref 71)), (3, .inl (.ref 130)), (4, .inl (.int v4343))]) rfl ?_
                                                  exact ih _ _ _ _ Iw4256 (by omega) (by omega) (by omega) (by omega) (by rw [c4258, c4167]; rw [c4259, c4168]; rw [c4260, c4169]; rw [c4261, c4170]; rw [c4262, c4171]; rw [c4263, c4172]; rw [c4264, c4173]; rw [c4265, c4174]; rw [c4266, c4175]; rw [c4267, c4176]; omega) (by rw [c4268, c4177]; rw [c4269, c4178]; rw [c4259, c4168]; first | exact f_1 | exact hJ) (by rw [c4270, c4179]; rw [c4271, c4180]; first | exact f_2 | exact hK2) (by rw [c4273, c4181]; rw [c4269, c4178]; rw [c4259, c4168]; first | exact f_3 | exact hQ2) (by rw [c4274, c4182]; rw [c4275, c4183]; rw [c4261, c4170]; first | exact f_4 | exact hQ6) (by rw [c4276, c4184]; rw [c4277, c4185]; rw [c4261, c4170]; first | exact f_5 | exact hQ7) (by rw [c4278, c4186]; rw [c4279, c4187]; rw [c4261, c4170]; first | exact f_6 | exact hQ8) (by rw [c4280, c4188]; rw [c4281, c4189]; rw [c4261, c4170]; first | exact f_7 | exact hQ9) (by rw [c4282, c4190]; rw [c4283, c4191]; rw [c4263, c4172]; first | exact f_8 | exact hQ14) (by rw [c4284, c4192]; rw [c4285, c4193]; rw [c4263, c4172]; first | exact f_9 | exact hQ15) (by rw [c4286, c4194]; rw [c4287, c4195]; rw [c4263, c4172]; first | exact f_10 | exact hQ16) (by rw [c4288, c4196]; rw [c4289, c4197]; rw [c4263, c4172]; first | exact f_11 | exact hQ17) (by rw [c4290, c4198]; rw [c4291, c4199]; rw [c4263, c4172]; first | exact f_12 | exact hQ18) (by rw [c4292, c4200]; rw [c4293, c4201]; rw [c4263, c4172]; first | exact f_13 | exact hQ19) (by rw [c4294, c4202]; rw [c4295, c4203]; rw [c4263, c4172]; first | exact f_14 | exact hQ20) (by rw [c4296, c4204]; rw [c4297, c4205]; rw [c4265, c4174]; first | exact f_15 | exact hQ24) (by rw [c4298, c4206]; rw [c4299, c4207]; rw [c4265, c4174]; first | exact f_16 | exact hQ25) (by rw [c4300, c4208]; rw [c4301, c4209]; rw [c4265, c4174]; first | exact f_17 | exact hQ23) (by rw [c4302, c4210]; rw [c4303, c4211]; rw [c4265, c4174]; first | exact f_18 | exact hQ26) (by rw [c4304, c4212]; rw [c4305, c4213]; rw [c4265, c4174]; first | exact f_19 | exact hQ27) (by rw [c4306, c4214]; rw [c4307, c4215]; rw [c4267, c4176]; first | exact f_20 | exact hQ36) (by rw [c4308, c4216]; rw [c4309, c4217]; rw [c4267, c4176]; first | exact f_21 | exact hQ37) (by rw [c4310, c4218]; rw [c4316, c4224]; rw [c4311, c4219]; rw [c4312, c4220]; rw [c4313, c4221]; rw [c4314, c4222]; rw [c4315, c4223]; rw [c4317, c4225]; rw [c4318, c4226]; rw [c4319, c4227]; rw [c4320, c4228]; rw [c4321, c4229]; exact f_22) (by rw [c4322, c4230]; rw [c4329, c4237]; rw [c4323, c4231]; rw [c4330, c4238]; rw [c4325, c4233]; rw [c4332, c4240]; rw [c4326, c4234]; rw [c4333, c4241]; rw [c4328, c4236]; rw [c4335, c4243]; rw [c4327, c4235]; rw [c4334, c4242]; exact f_23) (by rw [c4323, c4231]; rw [c4322, c4230]; rw [c4324, c4232]; rw [c4331, c4239]; exact f_24) (by rw [c4307, c4215]; rw [c4309, c4217]; rw [c4330, c4238]; rw [c4267, c4176]; rw [c4336, c4244]; exact f_25) (by rw [c4330, c4238]; rw [c4267, c4176]; exact f_26) (by rw [c4337, c4245]; rw [c4340, c4248]; rw [c4338, c4246]; rw [c4341, c4249]; rw [c4339, c4247]; rw [c4342, c4250]; exact f_27) (by omega)
                                                · clear h4159
                                                  refine sf_sw1 sf_c22 (fun h4344 => ?_) (fun h4344 => ?_)
                                                  · refine sf_aload rfl ?_
                                                    refine sf_aload rfl ?_
                                                    refine sf_iload rfl ?_
                                                    refine sf_iconst sf_c1 (fun z4345 ez4345 => ?_)
                                                    refine sf_iadd (by omega) (fun v4346 ev4346 => ?_)
                                                    refine sf_sldk (x := x4) (k := 1) (by omega) (by omega) (by omega) ?_
                                                    clear ev4346 ez4345
                                                    refine sf_aload rfl ?_
                                                    refine sf_iload rfl ?_
                                                    refine sf_iconst sf_c2 (fun z4347 ez4347 => ?_)
                                                    refine sf_iadd (by omega) (fun v4348 ev4348 => ?_)
                                                    refine sf_sldk (x := x4) (k := 2) (by omega) (by omega) (by omega) ?_
                                                    clear ev4348 ez4347
                                                    refine sf_aload rfl ?_
                                                    refine sf_callv4 rfl (by omega) (by omega) ?_
                                                    refine sc_W_account_0_130 I_w (by exact sl_Bq f_22.2.2.1 f_22.2.2.2.1 f_22.2.2.2.2.2.2.1) (fun v4349 w4350 Iw4350 tw4350 lv4349 uv4349 q4351_0 => ?_)
                                                    have c4352 := sf_mf tw4350 (p := 1) (j := 0) rfl
                                                    have c4353 := sf_mf tw4350 (p := 71) (j := 1) rfl
                                                    have c4354 := sf_mf tw4350 (p := 1) (j := 5) rfl
                                                    have c4355 := sf_mf tw4350 (p := 71) (j := 5) rfl
                                                    have c4356 := sf_mf tw4350 (p := 13) (j := 1) rfl
                                                    have c4357 := sf_mf tw4350 (p := 71) (j := 10) rfl
                                                    have c4358 := sf_mf tw4350 (p := 21) (j := 1) rfl
                                                    have c4359 := sf_mf tw4350 (p := 71) (j := 18) rfl
                                                    have c4360 := sf_mf tw4350 (p := 35) (j := 0) rfl
                                                    have c4361 := sf_mf tw4350 (p := 71) (j := 35) rfl
                                                    have c4362 := sf_ma tw4350 (p := 3) rfl
                                                    have c4363 := sf_ma tw4350 (p := 72) rfl
                                                    have c4364 := sf_mg tw4350 (p := 10) rfl
                                                    have c4365 := sf_ma tw4350 (p := 93) rfl
                                                    have c4366 := sf_ma tw4350 (p := 2) rfl
                                                    have c4367 := sf_ma tw4350 (p := 6) rfl
                                                    have c4368 := sf_ma tw4350 (p := 75) rfl
                                                    have c4369 := sf_ma tw4350 (p := 7) rfl
                                                    have c4370 := sf_ma tw4350 (p := 76) rfl
                                                    have c4371 := sf_ma tw4350 (p := 8) rfl
                                                    have c4372 := sf_ma tw4350 (p := 77) rfl
                                                    have c4373 := sf_ma tw4350 (p := 9) rfl
                                                    have c4374 := sf_ma tw4350 (p := 78) rfl
                                                    have c4375 := sf_ma tw4350 (p := 14) rfl
                                                    have c4376 := sf_ma tw4350 (p := 79) rfl
                                                    have c4377 := sf_ma tw4350 (p := 15) rfl
                                                    have c4378 := sf_ma tw4350 (p := 80) rfl
                                                    have c4379 := sf_ma tw4350 (p := 16) rfl
                                                    have c4380 := sf_ma tw4350 (p := 81) rfl
                                                    have c4381 := sf_ma tw4350 (p := 17) rfl
                                                    have c4382 := sf_ma tw4350 (p := 82) rfl
                                                    have c4383 := sf_ma tw4350 (p := 18) rfl
                                                    have c4384 := sf_ma tw4350 (p := 83) rfl
                                                    have c4385 := sf_ma tw4350 (p := 19) rfl
                                                    have c4386 := sf_ma tw4350 (p := 84) rfl
                                                    have c4387 := sf_ma tw4350 (p := 20) rfl
                                                    have c4388 := sf_ma tw4350 (p := 85) rfl
                                                    have c4389 := sf_ma tw4350 (p := 24) rfl
                                                    have c4390 := sf_ma tw4350 (p := 86) rfl
                                                    have c4391 := sf_ma tw4350 (p := 25) rfl
                                                    have c4392 := sf_ma tw4350 (p := 87) rfl
                                                    have c4393 := sf_ma tw4350 (p := 23) rfl
                                                    have c4394 := sf_ma tw4350 (p := 88) rfl
                                                    have c4395 := sf_ma tw4350 (p := 26) rfl
                                                    have c4396 := sf_ma tw4350 (p := 89) rfl
                                                    have c4397 := sf_ma tw4350 (p := 27) rfl
                                                    have c4398 := sf_ma tw4350 (p := 90) rfl
                                                    have c4399 := sf_ma tw4350 (p := 36) rfl
                                                    have c4400 := sf_ma tw4350 (p := 102) rfl
                                                    have c4401 := sf_ma tw4350 (p := 37) rfl
                                                    have c4402 := sf_ma tw4350 (p := 103) rfl
                                                    have c4403 := sf_mf tw4350 (p := 60) (j := 0) rfl
                                                    have c4404 := sf_ma tw4350 (p := 61) rfl
                                                    have c4405 := sf_ma tw4350 (p := 62) rfl
                                                    have c4406 := sf_ma tw4350 (p := 63) rfl
                                                    have c4407 := sf_ma tw4350 (p := 65) rfl
                                                    have c4408 := sf_ma tw4350 (p := 66) rfl
                                                    have c4409 := sf_mf tw4350 (p := 71) (j := 56) rfl
                                                    have c4410 := sf_ma tw4350 (p := 121) rfl
                                                    have c4411 := sf_ma tw4350 (p := 122) rfl
                                                    have c4412 := sf_ma tw4350 (p := 123) rfl
                                                    have c4413 := sf_ma tw4350 (p := 125) rfl
                                                    have c4414 := sf_ma tw4350 (p := 126) rfl
                                                    have c4415 := sf_ma tw4350 (p := 38) rfl
                                                    have c4416 := sf_ma tw4350 (p := 40) rfl
                                                    have c4417 := sf_ma tw4350 (p := 41) rfl
                                                    have c4418 := sf_ma tw4350 (p := 42) rfl
                                                    have c4419 := sf_ma tw4350 (p := 43) rfl
                                                    have c4420 := sf_ma tw4350 (p := 44) rfl
                                                    have c4421 := sf_ma tw4350 (p := 47) rfl
                                                    have c4422 := sf_ma tw4350 (p := 104) rfl
                                                    have c4423 := sf_ma tw4350 (p := 106) rfl
                                                    have c4424 := sf_ma tw4350 (p := 113) rfl
                                                    have c4425 := sf_ma tw4350 (p := 107) rfl
                                                    have c4426 := sf_ma tw4350 (p := 108) rfl
                                                    have c4427 := sf_ma tw4350 (p := 110) rfl
                                                    have c4428 := sf_ma tw4350 (p := 109) rfl
                                                    have c4429 := sf_mf tw4350 (p := 71) (j := 41) rfl
                                                    have c4430 := sf_ma tw4350 (p := 68) rfl
                                                    have c4431 := sf_ma tw4350 (p := 69) rfl
                                                    have c4432 := sf_ma tw4350 (p := 70) rfl
                                                    have c4433 := sf_ma tw4350 (p := 127) rfl
                                                    have c4434 := sf_ma tw4350 (p := 128) rfl
                                                    have c4435 := sf_ma tw4350 (p := 129) rfl
                                                    have F0 := q4351_0
                                                    clear q4351_0
                                                    refine sf_istore (L' := [(0, .inl (.ref 100000)), (1, .inl (.ref 0)), (2, .inl (.ref 71)), (3, .inl (.ref 130)), (4, .inl (.int x4))]) rfl ?_
                                                    refine sf_aload rfl ?_
                                                    refine sf_aload rfl ?_
                                                    refine sf_iload rfl ?_
                                                    refine sf_iconst sf_c1 (fun z4436 ez4436 => ?_)
                                                    refine sf_iadd (by omega) (fun v4437 ev4437 => ?_)
                                                    refine sf_sldk (x := x4) (k := 1) (by omega) (by omega) (by omega) ?_
                                                    clear ev4437 ez4436
                                                    refine sf_aload rfl ?_
                                                    refine sf_iload rfl ?_
                                                    refine sf_iconst sf_c2 (fun z4438 ez4438 => ?_)
                                                    refine sf_iadd (by omega) (fun v4439 ev4439 => ?_)
                                                    refine sf_sldk (x := x4) (k := 2) (by omega) (by omega) (by omega) ?_
                                                    clear ev4439 ez4438
                                                    refine sf_callv3 rfl (by omega) (by omega) ?_
                                                    refine sf_rv Iw4350 rfl ?_
                                                    refine sc_M_account Iw4350 (by rw [c4411]; rw [c4412]; exact f_22.2.2.2.2.2.2.1) (fun v4440 w4441 Iw4441 tw4441 q4442_0 => ?_)
                                                    rw [c4410] at q4442_0
                                                    rw [c4411] at q4442_0
                                                    rw [c4412] at q4442_0
                                                    rw [c4413] at q4442_0
                                                    rw [c4414] at q4442_0
                                                    rw [c4433] at q4442_0
                                                    rw [c4434] at q4442_0
                                                    rw [c4435] at q4442_0
                                                    rw [c4409] at q4442_0
                                                    have c4443 := sf_mf tw4441 (p := 1) (j := 0) rfl
                                                    have c4444 := sf_mf tw4441 (p := 71) (j := 1) rfl
                                                    have c4445 := sf_mf tw4441 (p := 1) (j := 5) rfl
                                                    have c4446 := sf_mf tw4441 (p := 71) (j := 5) rfl
                                                    have c4447 := sf_mf tw4441 (p := 13) (j := 1) rfl
                                                    have c4448 := sf_mf tw4441 (p := 71) (j := 10) rfl
                                                    have c4449 := sf_mf tw4441 (p := 21) (j := 1) rfl
                                                    have c4450 := sf_mf tw4441 (p := 71) (j := 18) rfl
                                                    have c4451 := sf_mf tw4441 (p := 35) (j := 0) rfl
                                                    have c4452 := sf_mf tw4441 (p := 71) (j := 35) rfl
                                                    have c4453 := sf_ma tw4441 (p := 3) rfl
                                                    have c4454 := sf_ma tw4441 (p := 72) rfl
                                                    have c4455 := sf_mg tw4441 (p := 10) rfl
                                                    have c4456 := sf_ma tw4441 (p := 93) rfl
                                                    have c4457 := sf_mL tw4441 (p := 130) rfl
                                                    have c4458 := sf_ma tw4441 (p := 2) rfl
                                                    have c4459 := sf_ma tw4441 (p := 6) rfl
                                                    have c4460 := sf_ma tw4441 (p := 75) rfl
                                                    have c4461 := sf_ma tw4441 (p := 7) rfl
                                                    have c4462 := sf_ma tw4441 (p := 76) rfl
                                                    have c4463 := sf_ma tw4441 (p := 8) rfl
                                                    have c4464 := sf_ma tw4441 (p := 77) rfl
                                                    have c4465 := sf_ma tw4441 (p := 9) rfl
                                                    have c4466 := sf_ma tw4441 (p := 78) rfl
                                                    have c4467 := sf_ma tw4441 (p := 14) rfl
                                                    have c4468 := sf_ma tw4441 (p := 79) rfl
                                                    have c4469 := sf_ma tw4441 (p := 15) rfl
                                                    have c4470 := sf_ma tw4441 (p := 80) rfl
                                                    have c4471 := sf_ma tw4441 (p := 16) rfl
                                                    have c4472 := sf_ma tw4441 (p := 81) rfl
                                                    have c4473 := sf_ma tw4441 (p := 17) rfl
                                                    have c4474 := sf_ma tw4441 (p := 82) rfl
                                                    have c4475 := sf_ma tw4441 (p := 18) rfl
                                                    have c4476 := sf_ma tw4441 (p := 83) rfl
                                                    have c4477 := sf_ma tw4441 (p := 19) rfl
                                                    have c4478 := sf_ma tw4441 (p := 84) rfl
                                                    have c4479 := sf_ma tw4441 (p := 20) rfl
                                                    have c4480 := sf_ma tw4441 (p := 85) rfl
                                                    have c4481 := sf_ma tw4441 (p := 24) rfl
                                                    have c4482 := sf_ma tw4441 (p := 86) rfl
                                                    have c4483 := sf_ma tw4441 (p := 25) rfl
                                                    have c4484 := sf_ma tw4441 (p := 87) rfl
                                                    have c4485 := sf_ma tw4441 (p := 23) rfl
                                                    have c4486 := sf_ma tw4441 (p := 88) rfl
                                                    have c4487 := sf_ma tw4441 (p := 26) rfl
                                                    have c4488 := sf_ma tw4441 (p := 89) rfl
                                                    have c4489 := sf_ma tw4441 (p := 27) rfl
                                                    have c4490 := sf_ma tw4441 (p := 90) rfl
                                                    have c4491 := sf_ma tw4441 (p := 36) rfl
                                                    have c4492 := sf_ma tw4441 (p := 102) rfl
                                                    have c4493 := sf_ma tw4441 (p := 37) rfl
                                                    have c4494 := sf_ma tw4441 (p := 103) rfl
                                                    have c4495 := sf_mf tw4441 (p := 60) (j := 0) rfl
                                                    have c4496 := sf_ma tw4441 (p := 61) rfl
                                                    have c4497 := sf_ma tw4441 (p := 62) rfl
                                                    have c4498 := sf_ma tw4441 (p := 63) rfl
                                                    have c4499 := sf_ma tw4441 (p := 65) rfl
                                                    have c4500 := sf_ma tw4441 (p := 66) rfl
                                                    have c4501 := sf_mf tw4441 (p := 71) (j := 56) rfl
                                                    have c4502 := sf_ma tw4441 (p := 121) rfl
                                                    have c4503 := sf_ma tw4441 (p := 122) rfl
                                                    have c4504 := sf_ma tw4441 (p := 123) rfl
                                                    have c4505 := sf_ma tw4441 (p := 125) rfl
                                                    have c4506 := sf_ma tw4441 (p := 126) rfl
                                                    have c4507 := sf_ma tw4441 (p := 38) rfl
                                                    have c4508 := sf_ma tw4441 (p := 40) rfl
                                                    have c4509 := sf_ma tw4441 (p := 41) rfl
                                                    have c4510 := sf_ma tw4441 (p := 42) rfl
                                                    have c4511 := sf_ma tw4441 (p := 43) rfl
                                                    have c4512 := sf_ma tw4441 (p := 44) rfl
                                                    have c4513 := sf_ma tw4441 (p := 47) rfl
                                                    have c4514 := sf_ma tw4441 (p := 104) rfl
                                                    have c4515 := sf_ma tw4441 (p := 106) rfl
                                                    have c4516 := sf_ma tw4441 (p := 113) rfl
                                                    have c4517 := sf_ma tw4441 (p := 107) rfl
                                                    have c4518 := sf_ma tw4441 (p := 108) rfl
                                                    have c4519 := sf_ma tw4441 (p := 110) rfl
                                                    have c4520 := sf_ma tw4441 (p := 109) rfl
                                                    have c4521 := sf_mf tw4441 (p := 71) (j := 41) rfl
                                                    have c4522 := sf_ma tw4441 (p := 68) rfl
                                                    have c4523 := sf_ma tw4441 (p := 69) rfl
                                                    have c4524 := sf_ma tw4441 (p := 70) rfl
                                                    have c4525 := sf_ma tw4441 (p := 127) rfl
                                                    have c4526 := sf_ma tw4441 (p := 128) rfl
                                                    have c4527 := sf_ma tw4441 (p := 129) rfl
                                                    have G0 := q4442_0
                                                    clear q4442_0
                                                    have b40 := (sf_fb I_w (p := 71) (ci := 9) (j := 56) rfl rfl)
                                                    have hSS := sl_SE f_22 (x := (xs (x4.toInt.toNat + 1)).toInt) (x' := (xs (x4.toInt.toNat + 1)).toInt) (y := 1) (y' := 1) b40.2 rfl rfl
                                                    have hC0 := sl_CE f_22 (x := (xs (x4.toInt.toNat + 1)).toInt) (x' := (xs (x4.toInt.toNat + 1)).toInt) (y := 0) (y' := 0) b40.2 rfl rfl
                                                    have hC1 := sl_CE f_22 (x := (xs (x4.toInt.toNat + 1)).toInt) (x' := (xs (x4.toInt.toNat + 1)).toInt) (y := 1) (y' := 1) b40.2 rfl rfl
                                                    have hg1 : 0 ≤ (xs (x4.toInt.toNat + 1)).toInt → (xs (x4.toInt.toNat + 1)).toInt ≤ 15 → (sf_a w 68 (xs (x4.toInt.toNat + 1)).toInt.toNat).toInt = (sf_a w 127 (xs (x4.toInt.toNat + 1)).toInt.toNat).toInt := fun h1 h2 => by rw [f_27.1 _ (by omega)]
                                                    have hg2 : 0 ≤ (xs (x4.toInt.toNat + 1)).toInt → (xs (x4.toInt.toNat + 1)).toInt ≤ 15 → (sf_a w 69 (xs (x4.toInt.toNat + 1)).toInt.toNat).toInt = (sf_a w 128 (xs (x4.toInt.toNat + 1)).toInt.toNat).toInt := fun h1 h2 => by rw [f_27.2.1 _ (by omega)]
                                                    have hg3 : 0 ≤ (xs (x4.toInt.toNat + 1)).toInt → (xs (x4.toInt.toNat + 1)).toInt ≤ 15 → (sf_a w 70 (xs (x4.toInt.toNat + 1)).toInt.toNat).toInt = (sf_a w 129 (xs (x4.toInt.toNat + 1)).toInt.toNat).toInt := fun h1 h2 => by rw [f_27.2.2 _ (by omega)]
                                                    refine sf_lstore (L' := [(5, .inl (.int v4349)), (0, .inl (.ref 100000)), (1, .inl (.ref 0)), (2, .inl (.ref 71)), (3, .inl (.ref 130)), (4, .inl (.int x4))]) rfl ?_
                                                    show kt_W_law_1404 N xs K _ _ _ _ _
                                                    refine sf_iinc (L' := [(6, .inl (.long v4440)), (5, .inl (.int v4349)), (0, .inl (.ref 100000)), (1, .inl (.ref 0)), (2, .inl (.ref 71)), (3, .inl (.ref 130))]) (x := x4) sf_c8 rfl rfl (by omega) (fun v4528 ev4528 => ?_)
                                                    refine sf_can (L' := [(0, .inl (.ref 100000)), (1, .inl (.ref 0)), (2, .inl (.ref 71)), (3, .inl (.ref 130)), (4, .inl (.int v4528))]) rfl ?_
                                                    exact ih _ _ _ _ Iw4441 (by omega) (by omega) (by omega) (by omega) (by rw [c4443, c4352]; rw [c4444, c4353]; rw [c4445, c4354]; rw [c4446, c4355]; rw [c4447, c4356]; rw [c4448, c4357]; rw [c4449, c4358]; rw [c4450, c4359]; rw [c4451, c4360]; rw [c4452, c4361]; omega) (by rw [c4453, c4362]; rw [c4454, c4363]; rw [c4444, c4353]; first | exact f_1 | exact hJ) (by rw [c4455, c4364]; rw [c4456, c4365]; first | exact f_2 | exact hK2) (by rw [c4458, c4366]; rw [c4454, c4363]; rw [c4444, c4353]; first | exact f_3 | exact hQ2) (by rw [c4459, c4367]; rw [c4460, c4368]; rw [c4446, c4355]; first | exact f_4 | exact hQ6) (by rw [c4461, c4369]; rw [c4462, c4370]; rw [c4446, c4355]; first | exact f_5 | exact hQ7) (by rw [c4463, c4371]; rw [c4464, c4372]; rw [c4446, c4355]; first | exact f_6 | exact hQ8) (by rw [c4465, c4373]; rw [c4466, c4374]; rw [c4446, c4355]; first | exact f_7 | exact hQ9) (by rw [c4467, c4375]; rw [c4468, c4376]; rw [c4448, c4357]; first | exact f_8 | exact hQ14) (by rw [c4469, c4377]; rw [c4470, c4378]; rw [c4448, c4357]; first | exact f_9 | exact hQ15) (by rw [c4471, c4379]; rw [c4472, c4380]; rw [c4448, c4357]; first | exact f_10 | exact hQ16) (by rw [c4473, c4381]; rw [c4474, c4382]; rw [c4448, c4357]; first | exact f_11 | exact hQ17) (by rw [c4475, c4383]; rw [c4476, c4384]; rw [c4448, c4357]; first | exact f_12 | exact hQ18) (by rw [c4477, c4385]; rw [c4478, c4386]; rw [c4448, c4357]; first | exact f_13 | exact hQ19) (by rw [c4479, c4387]; rw [c4480, c4388]; rw [c4448, c4357]; first | exact f_14 | exact hQ20) (by rw [c4481, c4389]; rw [c4482, c4390]; rw [c4450, c4359]; first | exact f_15 | exact hQ24) (by rw [c4483, c4391]; rw [c4484, c4392]; rw [c4450, c4359]; first | exact f_16 | exact hQ25) (by rw [c4485, c4393]; rw [c4486, c4394]; rw [c4450, c4359]; first | exact f_17 | exact hQ23) (by rw [c4487, c4395]; rw [c4488, c4396]; rw [c4450, c4359]; first | exact f_18 | exact hQ26) (by rw [c4489, c4397]; rw [c4490, c4398]; rw [c4450, c4359]; first | exact f_19 | exact hQ27) (by rw [c4491, c4399]; rw [c4492, c4400]; rw [c4452, c4361]; first | exact f_20 | exact hQ36) (by rw [c4493, c4401]; rw [c4494, c4402]; rw [c4452, c4361]; first | exact f_21 | exact hQ37) (by rw [c4495, c4403]; rw [c4501, c4409]; rw [c4496, c4404]; rw [c4497, c4405]; rw [c4498, c4406]; rw [c4499, c4407]; rw [c4500, c4408]; rw [c4502, c4410]; rw [c4503, c4411]; rw [c4504, c4412]; rw [c4505, c4413]; rw [c4506, c4414]; exact f_22) (by rw [c4507, c4415]; rw [c4514, c4422]; rw [c4508, c4416]; rw [c4515, c4423]; rw [c4510, c4418]; rw [c4517, c4425]; rw [c4511, c4419]; rw [c4518, c4426]; rw [c4513, c4421]; rw [c4520, c4428]; rw [c4512, c4420]; rw [c4519, c4427]; exact f_23) (by rw [c4508, c4416]; rw [c4507, c4415]; rw [c4509, c4417]; rw [c4516, c4424]; exact f_24) (by rw [c4492, c4400]; rw [c4494, c4402]; rw [c4515, c4423]; rw [c4452, c4361]; rw [c4521, c4429]; exact f_25) (by rw [c4515, c4423]; rw [c4452, c4361]; exact f_26) (by rw [c4522, c4430]; rw [c4525, c4433]; rw [c4523, c4431]; rw [c4526, c4434]; rw [c4524, c4432]; rw [c4527, c4435]; exact f_27) (by omega)
                                                  · clear h4344
                                                    refine sf_sw1 sf_c23 (fun h4529 => ?_) (fun h4529 => ?_)
                                                    · refine sf_aload rfl ?_
                                                      refine sf_aload rfl ?_
                                                      refine sf_iload rfl ?_
                                                      refine sf_iconst sf_c1 (fun z4530 ez4530 => ?_)
                                                      refine sf_iadd (by omega) (fun v4531 ev4531 => ?_)
                                                      refine sf_sldk (x := x4) (k := 1) (by omega) (by omega) (by omega) ?_
                                                      clear ev4531 ez4530
                                                      refine sf_aload rfl ?_
                                                      refine sf_callv3 rfl (by omega) (by omega) ?_
                                                      refine sc_W_books_0_130 I_w  (fun v4532 w4533 Iw4533 tw4533 lv4532 uv4532 => ?_)
                                                      have c4535 := sf_mf tw4533 (p := 1) (j := 0) rfl
                                                      have c4536 := sf_mf tw4533 (p := 71) (j := 1) rfl
                                                      have c4537 := sf_mf tw4533 (p := 1) (j := 5) rfl
                                                      have c4538 := sf_mf tw4533 (p := 71) (j := 5) rfl
                                                      have c4539 := sf_mf tw4533 (p := 13) (j := 1) rfl
                                                      have c4540 := sf_mf tw4533 (p := 71) (j := 10) rfl
                                                      have c4541 := sf_mf tw4533 (p := 21) (j := 1) rfl
                                                      have c4542 := sf_mf tw4533 (p := 71) (j := 18) rfl
                                                      have c4543 := sf_mf tw4533 (p := 35) (j := 0) rfl
                                                      have c4544 := sf_mf tw4533 (p := 71) (j := 35) rfl
                                                      have c4545 := sf_ma tw4533 (p := 3) rfl
                                                      have c4546 := sf_ma tw4533 (p := 72) rfl
                                                      have c4547 := sf_mg tw4533 (p := 10) rfl
                                                      have c4548 := sf_ma tw4533 (p := 93) rfl
                                                      have c4549 := sf_ma tw4533 (p := 2) rfl
                                                      have c4550 := sf_ma tw4533 (p := 6) rfl
                                                      have c4551 := sf_ma tw4533 (p := 75) rfl
                                                      have c4552 := sf_ma tw4533 (p := 7) rfl
                                                      have c4553 := sf_ma tw4533 (p := 76) rfl
                                                      have c4554 := sf_ma tw4533 (p := 8) rfl
                                                      have c4555 := sf_ma tw4533 (p := 77) rfl
                                                      have c4556 := sf_ma tw4533 (p := 9) rfl
                                                      have c4557 := sf_ma tw4533 (p := 78) rfl
                                                      have c4558 := sf_ma tw4533 (p := 14) rfl
                                                      have c4559 := sf_ma tw4533 (p := 79) rfl
                                                      have c4560 := sf_ma tw4533 (p := 15) rfl
                                                      have c4561 := sf_ma tw4533 (p := 80) rfl
                                                      have c4562 := sf_ma tw4533 (p := 16) rfl
                                                      have c4563 := sf_ma tw4533 (p := 81) rfl
                                                      have c4564 := sf_ma tw4533 (p := 17) rfl
                                                      have c4565 := sf_ma tw4533 (p := 82) rfl
                                                      have c4566 := sf_ma tw4533 (p := 18) rfl
                                                      have c4567 := sf_ma tw4533 (p := 83) rfl
                                                      have c4568 := sf_ma tw4533 (p := 19) rfl
                                                      have c4569 := sf_ma tw4533 (p := 84) rfl
                                                      have c4570 := sf_ma tw4533 (p := 20) rfl
                                                      have c4571 := sf_ma tw4533 (p := 85) rfl
                                                      have c4572 := sf_ma tw4533 (p := 24) rfl
                                                      have c4573 := sf_ma tw4533 (p := 86) rfl
                                                      have c4574 := sf_ma tw4533 (p := 25) rfl
                                                      have c4575 := sf_ma tw4533 (p := 87) rfl
                                                      have c4576 := sf_ma tw4533 (p := 23) rfl
                                                      have c4577 := sf_ma tw4533 (p := 88) rfl
                                                      have c4578 := sf_ma tw4533 (p := 26) rfl
                                                      have c4579 := sf_ma tw4533 (p := 89) rfl
                                                      have c4580 := sf_ma tw4533 (p := 27) rfl
                                                      have c4581 := sf_ma tw4533 (p := 90) rfl
                                                      have c4582 := sf_ma tw4533 (p := 36) rfl
                                                      have c4583 := sf_ma tw4533 (p := 102) rfl
                                                      have c4584 := sf_ma tw4533 (p := 37) rfl
                                                      have c4585 := sf_ma tw4533 (p := 103) rfl
                                                      have c4586 := sf_mf tw4533 (p := 60) (j := 0) rfl
                                                      have c4587 := sf_ma tw4533 (p := 61) rfl
                                                      have c4588 := sf_ma tw4533 (p := 62) rfl
                                                      have c4589 := sf_ma tw4533 (p := 63) rfl
                                                      have c4590 := sf_ma tw4533 (p := 65) rfl
                                                      have c4591 := sf_ma tw4533 (p := 66) rfl
                                                      have c4592 := sf_mf tw4533 (p := 71) (j := 56) rfl
                                                      have c4593 := sf_ma tw4533 (p := 121) rfl
                                                      have c4594 := sf_ma tw4533 (p := 122) rfl
                                                      have c4595 := sf_ma tw4533 (p := 123) rfl
                                                      have c4596 := sf_ma tw4533 (p := 125) rfl
                                                      have c4597 := sf_ma tw4533 (p := 126) rfl
                                                      have c4598 := sf_ma tw4533 (p := 38) rfl
                                                      have c4599 := sf_ma tw4533 (p := 40) rfl
                                                      have c4600 := sf_ma tw4533 (p := 41) rfl
                                                      have c4601 := sf_ma tw4533 (p := 42) rfl
                                                      have c4602 := sf_ma tw4533 (p := 43) rfl
                                                      have c4603 := sf_ma tw4533 (p := 44) rfl
                                                      have c4604 := sf_ma tw4533 (p := 47) rfl
                                                      have c4605 := sf_ma tw4533 (p := 104) rfl
                                                      have c4606 := sf_ma tw4533 (p := 106) rfl
                                                      have c4607 := sf_ma tw4533 (p := 113) rfl
                                                      have c4608 := sf_ma tw4533 (p := 107) rfl
                                                      have c4609 := sf_ma tw4533 (p := 108) rfl
                                                      have c4610 := sf_ma tw4533 (p := 110) rfl
                                                      have c4611 := sf_ma tw4533 (p := 109) rfl
                                                      have c4612 := sf_mf tw4533 (p := 71) (j := 41) rfl
                                                      have c4613 := sf_ma tw4533 (p := 68) rfl
                                                      have c4614 := sf_ma tw4533 (p := 69) rfl
                                                      have c4615 := sf_ma tw4533 (p := 70) rfl
                                                      have c4616 := sf_ma tw4533 (p := 127) rfl
                                                      have c4617 := sf_ma tw4533 (p := 128) rfl
                                                      have c4618 := sf_ma tw4533 (p := 129) rfl
                                                      refine sf_istore (L' := [(0, .inl (.ref 100000)), (1, .inl (.ref 0)), (2, .inl (.ref 71)), (3, .inl (.ref 130)), (4, .inl (.int x4))]) rfl ?_
                                                      refine sf_aload rfl ?_
                                                      refine sf_aload rfl ?_
                                                      refine sf_iload rfl ?_
                                                      refine sf_iconst sf_c1 (fun z4619 ez4619 => ?_)
                                                      refine sf_iadd (by omega) (fun v4620 ev4620 => ?_)
                                                      refine sf_sldk (x := x4) (k := 1) (by omega) (by omega) (by omega) ?_
                                                      clear ev4620 ez4619
                                                      refine sf_callv2 rfl (by omega) (by omega) ?_
                                                      refine sf_rv Iw4533 rfl ?_
                                                      refine sc_M_books Iw4533  (fun v4621 w4622 Iw4622 tw4622 => ?_)
                                                      have c4624 := sf_mf tw4622 (p := 1) (j := 0) rfl
                                                      have c4625 := sf_mf tw4622 (p := 71) (j := 1) rfl
                                                      have c4626 := sf_mf tw4622 (p := 1) (j := 5) rfl
                                                      have c4627 := sf_mf tw4622 (p := 71) (j := 5) rfl
                                                      have c4628 := sf_mf tw4622 (p := 13) (j := 1) rfl
                                                      have c4629 := sf_mf tw4622 (p := 71) (j := 10) rfl
                                                      have c4630 := sf_mf tw4622 (p := 21) (j := 1) rfl
                                                      have c4631 := sf_mf tw4622 (p := 71) (j := 18) rfl
                                                      have c4632 := sf_mf tw4622 (p := 35) (j := 0) rfl
                                                      have c4633 := sf_mf tw4622 (p := 71) (j := 35) rfl
                                                      have c4634 := sf_ma tw4622 (p := 3) rfl
                                                      have c4635 := sf_ma tw4622 (p := 72) rfl
                                                      have c4636 := sf_mg tw4622 (p := 10) rfl
                                                      have c4637 := sf_ma tw4622 (p := 93) rfl
                                                      have c4638 := sf_mL tw4622 (p := 130) rfl
                                                      have c4639 := sf_ma tw4622 (p := 2) rfl
                                                      have c4640 := sf_ma tw4622 (p := 6) rfl
                                                      have c4641 := sf_ma tw4622 (p := 75) rfl
                                                      have c4642 := sf_ma tw4622 (p := 7) rfl
                                                      have c4643 := sf_ma tw4622 (p := 76) rfl
                                                      have c4644 := sf_ma tw4622 (p := 8) rfl
                                                      have c4645 := sf_ma tw4622 (p := 77) rfl
                                                      have c4646 := sf_ma tw4622 (p := 9) rfl
                                                      have c4647 := sf_ma tw4622 (p := 78) rfl
                                                      have c4648 := sf_ma tw4622 (p := 14) rfl
                                                      have c4649 := sf_ma tw4622 (p := 79) rfl
                                                      have c4650 := sf_ma tw4622 (p := 15) rfl
                                                      have c4651 := sf_ma tw4622 (p := 80) rfl
                                                      have c4652 := sf_ma tw4622 (p := 16) rfl
                                                      have c4653 := sf_ma tw4622 (p := 81) rfl
                                                      have c4654 := sf_ma tw4622 (p := 17) rfl
                                                      have c4655 := sf_ma tw4622 (p := 82) rfl
                                                      have c4656 := sf_ma tw4622 (p := 18) rfl
                                                      have c4657 := sf_ma tw4622 (p := 83) rfl
                                                      have c4658 := sf_ma tw4622 (p := 19) rfl
                                                      have c4659 := sf_ma tw4622 (p := 84) rfl
                                                      have c4660 := sf_ma tw4622 (p := 20) rfl
                                                      have c4661 := sf_ma tw4622 (p := 85) rfl
                                                      have c4662 := sf_ma tw4622 (p := 24) rfl
                                                      have c4663 := sf_ma tw4622 (p := 86) rfl
                                                      have c4664 := sf_ma tw4622 (p := 25) rfl
                                                      have c4665 := sf_ma tw4622 (p := 87) rfl
                                                      have c4666 := sf_ma tw4622 (p := 23) rfl
                                                      have c4667 := sf_ma tw4622 (p := 88) rfl
                                                      have c4668 := sf_ma tw4622 (p := 26) rfl
                                                      have c4669 := sf_ma tw4622 (p := 89) rfl
                                                      have c4670 := sf_ma tw4622 (p := 27) rfl
                                                      have c4671 := sf_ma tw4622 (p := 90) rfl
                                                      have c4672 := sf_ma tw4622 (p := 36) rfl
                                                      have c4673 := sf_ma tw4622 (p := 102) rfl
                                                      have c4674 := sf_ma tw4622 (p := 37) rfl
                                                      have c4675 := sf_ma tw4622 (p := 103) rfl
                                                      have c4676 := sf_mf tw4622 (p := 60) (j := 0) rfl
                                                      have c4677 := sf_ma tw4622 (p := 61) rfl
                                                      have c4678 := sf_ma tw4622 (p := 62) rfl
                                                      have c4679 := sf_ma tw4622 (p := 63) rfl
                                                      have c4680 := sf_ma tw4622 (p := 65) rfl
                                                      have c4681 := sf_ma tw4622 (p := 66) rfl
                                                      have c4682 := sf_mf tw4622 (p := 71) (j := 56) rfl
                                                      have c4683 := sf_ma tw4622 (p := 121) rfl
                                                      have c4684 := sf_ma tw4622 (p := 122) rfl
                                                      have c4685 := sf_ma tw4622 (p := 123) rfl
                                                      have c4686 := sf_ma tw4622 (p := 125) rfl
                                                      have c4687 := sf_ma tw4622 (p := 126) rfl
                                                      have c4688 := sf_ma tw4622 (p := 38) rfl
                                                      have c4689 := sf_ma tw4622 (p := 40) rfl
                                                      have c4690 := sf_ma tw4622 (p := 41) rfl
                                                      have c4691 := sf_ma tw4622 (p := 42) rfl
                                                      have c4692 := sf_ma tw4622 (p := 43) rfl
                                                      have c4693 := sf_ma tw4622 (p := 44) rfl
                                                      have c4694 := sf_ma tw4622 (p := 47) rfl
                                                      have c4695 := sf_ma tw4622 (p := 104) rfl
                                                      have c4696 := sf_ma tw4622 (p := 106) rfl
                                                      have c4697 := sf_ma tw4622 (p := 113) rfl
                                                      have c4698 := sf_ma tw4622 (p := 107) rfl
                                                      have c4699 := sf_ma tw4622 (p := 108) rfl
                                                      have c4700 := sf_ma tw4622 (p := 110) rfl
                                                      have c4701 := sf_ma tw4622 (p := 109) rfl
                                                      have c4702 := sf_mf tw4622 (p := 71) (j := 41) rfl
                                                      have c4703 := sf_ma tw4622 (p := 68) rfl
                                                      have c4704 := sf_ma tw4622 (p := 69) rfl
                                                      have c4705 := sf_ma tw4622 (p := 70) rfl
                                                      have c4706 := sf_ma tw4622 (p := 127) rfl
                                                      have c4707 := sf_ma tw4622 (p := 128) rfl
                                                      have c4708 := sf_ma tw4622 (p := 129) rfl
                                                      refine sf_lstore (L' := [(5, .inl (.int v4532)), (0, .inl (.ref 100000)), (1, .inl (.ref 0)), (2, .inl (.ref 71)), (3, .inl (.ref 130)), (4, .inl (.int x4))]) rfl ?_
                                                      show kt_W_law_1404 N xs K _ _ _ _ _
                                                      refine sf_iinc (L' := [(6, .inl (.long v4621)), (5, .inl (.int v4532)), (0, .inl (.ref 100000)), (1, .inl (.ref 0)), (2, .inl (.ref 71)), (3, .inl (.ref 130))]) (x := x4) sf_c8 rfl rfl (by omega) (fun v4709 ev4709 => ?_)
                                                      refine sf_can (L' := [(0, .inl (.ref 100000)), (1, .inl (.ref 0)), (2, .inl (.ref 71)), (3, .inl (.ref 130)), (4, .inl (.int v4709))]) rfl ?_
                                                      exact ih _ _ _ _ Iw4622 (by omega) (by omega) (by omega) (by omega) (by rw [c4624, c4535]; rw [c4625, c4536]; rw [c4626, c4537]; rw [c4627, c4538]; rw [c4628, c4539]; rw [c4629, c4540]; rw [c4630, c4541]; rw [c4631, c4542]; rw [c4632, c4543]; rw [c4633, c4544]; omega) (by rw [c4634, c4545]; rw [c4635, c4546]; rw [c4625, c4536]; first | exact f_1 | exact hJ) (by rw [c4636, c4547]; rw [c4637, c4548]; first | exact f_2 | exact hK2) (by rw [c4639, c4549]; rw [c4635, c4546]; rw [c4625, c4536]; first | exact f_3 | exact hQ2) (by rw [c4640, c4550]; rw [c4641, c4551]; rw [c4627, c4538]; first | exact f_4 | exact hQ6) (by rw [c4642, c4552]; rw [c4643, c4553]; rw [c4627, c4538]; first | exact f_5 | exact hQ7) (by rw [c4644, c4554]; rw [c4645, c4555]; rw [c4627, c4538]; first | exact f_6 | exact hQ8) (by rw [c4646, c4556]; rw [c4647, c4557]; rw [c4627, c4538]; first | exact f_7 | exact hQ9) (by rw [c4648, c4558]; rw [c4649, c4559]; rw [c4629, c4540]; first | exact f_8 | exact hQ14) (by rw [c4650, c4560]; rw [c4651, c4561]; rw [c4629, c4540]; first | exact f_9 | exact hQ15) (by rw [c4652, c4562]; rw [c4653, c4563]; rw [c4629, c4540]; first | exact f_10 | exact hQ16) (by rw [c4654, c4564]; rw [c4655, c4565]; rw [c4629, c4540]; first | exact f_11 | exact hQ17) (by rw [c4656, c4566]; rw [c4657, c4567]; rw [c4629, c4540]; first | exact f_12 | exact hQ18) (by rw [c4658, c4568]; rw [c4659, c4569]; rw [c4629, c4540]; first | exact f_13 | exact hQ19) (by rw [c4660, c4570]; rw [c4661, c4571]; rw [c4629, c4540]; first | exact f_14 | exact hQ20) (by rw [c4662, c4572]; rw [c4663, c4573]; rw [c4631, c4542]; first | exact f_15 | exact hQ24) (by rw [c4664, c4574]; rw [c4665, c4575]; rw [c4631, c4542]; first | exact f_16 | exact hQ25) (by rw [c4666, c4576]; rw [c4667, c4577]; rw [c4631, c4542]; first | exact f_17 | exact hQ23) (by rw [c4668, c4578]; rw [c4669, c4579]; rw [c4631, c4542]; first | exact f_18 | exact hQ26) (by rw [c4670, c4580]; rw [c4671, c4581]; rw [c4631, c4542]; first | exact f_19 | exact hQ27) (by rw [c4672, c4582]; rw [c4673, c4583]; rw [c4633, c4544]; first | exact f_20 | exact hQ36) (by rw [c4674, c4584]; rw [c4675, c4585]; rw [c4633, c4544]; first | exact f_21 | exact hQ37) (by rw [c4676, c4586]; rw [c4682, c4592]; rw [c4677, c4587]; rw [c4678, c4588]; rw [c4679, c4589]; rw [c4680, c4590]; rw [c4681, c4591]; rw [c4683, c4593]; rw [c4684, c4594]; rw [c4685, c4595]; rw [c4686, c4596]; rw [c4687, c4597]; exact f_22) (by rw [c4688, c4598]; rw [c4695, c4605]; rw [c4689, c4599]; rw [c4696, c4606]; rw [c4691, c4601]; rw [c4698, c4608]; rw [c4692, c4602]; rw [c4699, c4609]; rw [c4694, c4604]; rw [c4701, c4611]; rw [c4693, c4603]; rw [c4700, c4610]; exact f_23) (by rw [c4689, c4599]; rw [c4688, c4598]; rw [c4690, c4600]; rw [c4697, c4607]; exact f_24) (by rw [c4673, c4583]; rw [c4675, c4585]; rw [c4696, c4606]; rw [c4633, c4544]; rw [c4702, c4612]; exact f_25) (by rw [c4696, c4606]; rw [c4633, c4544]; exact f_26) (by rw [c4703, c4613]; rw [c4706, c4616]; rw [c4704, c4614]; rw [c4707, c4617]; rw [c4705, c4615]; rw [c4708, c4618]; exact f_27) (by omega)
                                                    · clear h4529
                                                      refine sf_sw0 ?_
                                                      refine sf_iinc (L' := [(0, .inl (.ref 100000)), (1, .inl (.ref 0)), (2, .inl (.ref 71)), (3, .inl (.ref 130))]) (x := x4) sf_c8 rfl rfl (by omega) (fun v4710 ev4710 => ?_)
                                                      refine sf_can (L' := [(0, .inl (.ref 100000)), (1, .inl (.ref 0)), (2, .inl (.ref 71)), (3, .inl (.ref 130)), (4, .inl (.int v4710))]) rfl ?_
                                                      exact ih _ _ _ _ I_w (by omega) (by omega) (by omega) (by omega) (by omega) (by first | exact f_1 | exact hJ) (by first | exact f_2 | exact hK2) (by first | exact f_3 | exact hQ2) (by first | exact f_4 | exact hQ6) (by first | exact f_5 | exact hQ7) (by first | exact f_6 | exact hQ8) (by first | exact f_7 | exact hQ9) (by first | exact f_8 | exact hQ14) (by first | exact f_9 | exact hQ15) (by first | exact f_10 | exact hQ16) (by first | exact f_11 | exact hQ17) (by first | exact f_12 | exact hQ18) (by first | exact f_13 | exact hQ19) (by first | exact f_14 | exact hQ20) (by first | exact f_15 | exact hQ24) (by first | exact f_16 | exact hQ25) (by first | exact f_17 | exact hQ23) (by first | exact f_18 | exact hQ26) (by first | exact f_19 | exact hQ27) (by first | exact f_20 | exact hQ36) (by first | exact f_21 | exact hQ37) (by exact f_22) (by exact f_23) (by exact f_24) (by exact f_25) (by exact f_26) (by exact f_27) (by omega)
