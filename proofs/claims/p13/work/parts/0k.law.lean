set_option maxRecDepth 100000 in
set_option maxHeartbeats 40000000 in
theorem sc_law (N : Nat) (hN : N ≤ 4096) (xs : Nat → Int32) : ∀ n : Nat, ∀ (w : wq_W) (x4 : Int32) (a b : Nat), sf_I w → 0 ≤ x4.toInt → x4.toInt ≤ (N : Int) → (a : Int) ≤ 207 + 100 * x4.toInt → (b : Int) ≤ 4018 + 600 * x4.toInt → ((sf_f w 1 0).toInt = (sf_f w 71 1).toInt ∧ (sf_f w 1 5).toInt = (sf_f w 71 5).toInt ∧ (sf_f w 13 1).toInt = (sf_f w 71 10).toInt ∧ (sf_f w 21 1).toInt = (sf_f w 71 18).toInt ∧ (sf_f w 35 0).toInt = (sf_f w 71 35).toInt) → (sf_J (sf_a w 3) (sf_a w 72) (sf_f w 71 1).toInt) → (sf_K (sf_g w 10) (sf_a w 93)) → (sf_Q (sf_f w 71 1).toInt (sf_a w 2) (sf_a w 72)) → (sf_Q (sf_f w 71 5).toInt (sf_a w 6) (sf_a w 75)) → (sf_Q (sf_f w 71 5).toInt (sf_a w 7) (sf_a w 76)) → (sf_Q (sf_f w 71 5).toInt (sf_a w 8) (sf_a w 77)) → (sf_Q (sf_f w 71 5).toInt (sf_a w 9) (sf_a w 78)) → (sf_Q (sf_f w 71 10).toInt (sf_a w 14) (sf_a w 79)) → (sf_Q (sf_f w 71 10).toInt (sf_a w 15) (sf_a w 80)) → (sf_Q (sf_f w 71 10).toInt (sf_a w 16) (sf_a w 81)) → (sf_Q (sf_f w 71 10).toInt (sf_a w 17) (sf_a w 82)) → (sf_Q (sf_f w 71 10).toInt (sf_a w 18) (sf_a w 83)) → (sf_Q (sf_f w 71 10).toInt (sf_a w 19) (sf_a w 84)) → (sf_Q (sf_f w 71 10).toInt (sf_a w 20) (sf_a w 85)) → (sf_Q (sf_f w 71 18).toInt (sf_a w 24) (sf_a w 86)) → (sf_Q (sf_f w 71 18).toInt (sf_a w 25) (sf_a w 87)) → (sf_Q (sf_f w 71 18).toInt (sf_a w 23) (sf_a w 88)) → (sf_Q (sf_f w 71 18).toInt (sf_a w 26) (sf_a w 89)) → (sf_Q (sf_f w 71 18).toInt (sf_a w 27) (sf_a w 90)) → (sf_Q (sf_f w 71 35).toInt (sf_a w 36) (sf_a w 102)) → (sf_Q (sf_f w 71 35).toInt (sf_a w 37) (sf_a w 103)) → (sq_Z (sf_a w 34) (sf_a w 30) (sf_a w 94) (sf_a w 95)) → (sf_Q 24 (sf_a w 4) (sf_a w 73) ∧ sf_Q 24 (sf_a w 5) (sf_a w 74)) → (sf_Q 4 (sf_a w 29) (sf_a w 98)) → (sm_g5 (sf_g w 31) (sf_a w 95) ∧ sm_g5 (sf_g w 32) (sf_a w 96) ∧ sm_g5 (sf_g w 33) (sf_a w 97) ∧ sm_ac (sf_a w 94) (sf_a w 95)) → (N : Int) - x4.toInt < (n : Int) → ku_W_law N xs n 23 [(0, .inl (.ref 100000)), (1, .inl (.ref 0)), (2, .inl (.ref 71)), (3, .inl (.ref 130)), (4, .inl (.int x4))] [] w a b := by
  intro n
  induction n with
  | zero => intros; omega
  | succ n ih =>
    intro w x4 a b I_w l_x4 u_x4 ha hb f_0 f_1 f_2 f_3 f_4 f_5 f_6 f_7 f_8 f_9 f_10 f_11 f_12 f_13 f_14 f_15 f_16 f_17 f_18 f_19 f_20 f_21 f_22 f_23 f_24 f_25 hm
    show kh_W_law_23 N xs (ku_W_law N xs n) [(0, .inl (.ref 100000)), (1, .inl (.ref 0)), (2, .inl (.ref 71)), (3, .inl (.ref 130)), (4, .inl (.int x4))] [] w a b
    generalize ku_W_law N xs n = K at ih ⊢
    have hs : sf_m [] w w := sf_m0
    refine sf_iload rfl ?_
    refine sf_aload rfl ?_
    refine sf_slen hN (fun z1 ez1 => ?_)
    refine sf_iconst sf_c8 (fun z2 ez2 => ?_)
    refine sf_isub (by omega) (fun v3 ev3 => ?_)
    refine sf_f2_gt (fun h4 => ?_) (fun h4 => ?_)
    · refine sf_iconst sf_c1 (fun z5 ez5 => ?_)
      exact sf_lend (by omega) (by omega) (by omega)
    · refine sf_aload rfl ?_
      refine sf_iload rfl ?_
      refine sf_sld (by omega) (fun v6 => ?_)
      refine sf_iconst sf_c31 (fun z7 ez7 => ?_)
      refine sf_iand (n := 31) (by omega) (by decide) (fun v8 lv8 uv8 => ?_)
      refine sf_sw1 sf_c0 (fun h9 => ?_) (fun h9 => ?_)
      · refine sf_aload rfl ?_
        refine sf_aload rfl ?_
        refine sf_iload rfl ?_
        refine sf_iconst sf_c1 (fun z10 ez10 => ?_)
        refine sf_iadd (by omega) (fun v11 ev11 => ?_)
        refine sf_sldk (x := x4) (k := 1) (by omega) (by omega) (by omega) ?_
        clear ev11 ez10
        refine sf_aload rfl ?_
        refine sf_callv3 rfl (by omega) (by omega) ?_
        refine sc_W_heading_0_130 I_w  (fun v12 w13 Iw13 tw13 lv12 uv12 q14_0 q14_1 q14_2 q14_3 => ?_)
        have c15 := sf_mf tw13 (p := 71) (j := 1) rfl
        have c16 := sf_mf tw13 (p := 1) (j := 5) rfl
        have c17 := sf_mf tw13 (p := 71) (j := 5) rfl
        have c18 := sf_mf tw13 (p := 13) (j := 1) rfl
        have c19 := sf_mf tw13 (p := 71) (j := 10) rfl
        have c20 := sf_mf tw13 (p := 21) (j := 1) rfl
        have c21 := sf_mf tw13 (p := 71) (j := 18) rfl
        have c22 := sf_mf tw13 (p := 35) (j := 0) rfl
        have c23 := sf_mf tw13 (p := 71) (j := 35) rfl
        have c24 := sf_ma tw13 (p := 72) rfl
        have c25 := sf_mg tw13 (p := 10) rfl
        have c26 := sf_ma tw13 (p := 93) rfl
        have c27 := sf_ma tw13 (p := 6) rfl
        have c28 := sf_ma tw13 (p := 75) rfl
        have c29 := sf_ma tw13 (p := 7) rfl
        have c30 := sf_ma tw13 (p := 76) rfl
        have c31 := sf_ma tw13 (p := 8) rfl
        have c32 := sf_ma tw13 (p := 77) rfl
        have c33 := sf_ma tw13 (p := 9) rfl
        have c34 := sf_ma tw13 (p := 78) rfl
        have c35 := sf_ma tw13 (p := 14) rfl
        have c36 := sf_ma tw13 (p := 79) rfl
        have c37 := sf_ma tw13 (p := 15) rfl
        have c38 := sf_ma tw13 (p := 80) rfl
        have c39 := sf_ma tw13 (p := 16) rfl
        have c40 := sf_ma tw13 (p := 81) rfl
        have c41 := sf_ma tw13 (p := 17) rfl
        have c42 := sf_ma tw13 (p := 82) rfl
        have c43 := sf_ma tw13 (p := 18) rfl
        have c44 := sf_ma tw13 (p := 83) rfl
        have c45 := sf_ma tw13 (p := 19) rfl
        have c46 := sf_ma tw13 (p := 84) rfl
        have c47 := sf_ma tw13 (p := 20) rfl
        have c48 := sf_ma tw13 (p := 85) rfl
        have c49 := sf_ma tw13 (p := 24) rfl
        have c50 := sf_ma tw13 (p := 86) rfl
        have c51 := sf_ma tw13 (p := 25) rfl
        have c52 := sf_ma tw13 (p := 87) rfl
        have c53 := sf_ma tw13 (p := 23) rfl
        have c54 := sf_ma tw13 (p := 88) rfl
        have c55 := sf_ma tw13 (p := 26) rfl
        have c56 := sf_ma tw13 (p := 89) rfl
        have c57 := sf_ma tw13 (p := 27) rfl
        have c58 := sf_ma tw13 (p := 90) rfl
        have c59 := sf_ma tw13 (p := 36) rfl
        have c60 := sf_ma tw13 (p := 102) rfl
        have c61 := sf_ma tw13 (p := 37) rfl
        have c62 := sf_ma tw13 (p := 103) rfl
        have c63 := sf_ma tw13 (p := 34) rfl
        have c64 := sf_ma tw13 (p := 30) rfl
        have c65 := sf_ma tw13 (p := 94) rfl
        have c66 := sf_ma tw13 (p := 95) rfl
        have c67 := sf_ma tw13 (p := 73) rfl
        have c68 := sf_ma tw13 (p := 5) rfl
        have c69 := sf_ma tw13 (p := 74) rfl
        have c70 := sf_ma tw13 (p := 29) rfl
        have c71 := sf_ma tw13 (p := 98) rfl
        have c72 := sf_mg tw13 (p := 31) rfl
        have c73 := sf_mg tw13 (p := 32) rfl
        have c74 := sf_mg tw13 (p := 33) rfl
        have c75 := sf_ma tw13 (p := 96) rfl
        have c76 := sf_ma tw13 (p := 97) rfl
        have UKc := q14_3
        clear q14_3
        have U2 := q14_2
        clear q14_2
        have F1 := q14_0
        have F2 := q14_1
        clear q14_0 q14_1
        have hHD : (sf_f w 1 0).toInt = (sf_f w 71 1).toInt := by omega
        rw [hHD] at F2
        refine sf_istore (L' := [(0, .inl (.ref 100000)), (1, .inl (.ref 0)), (2, .inl (.ref 71)), (3, .inl (.ref 130)), (4, .inl (.int x4))]) rfl ?_
        refine sf_aload rfl ?_
        refine sf_aload rfl ?_
        refine sf_iload rfl ?_
        refine sf_iconst sf_c1 (fun z77 ez77 => ?_)
        refine sf_iadd (by omega) (fun v78 ev78 => ?_)
        refine sf_sldk (x := x4) (k := 1) (by omega) (by omega) (by omega) ?_
        clear ev78 ez77
        refine sf_callv2 rfl (by omega) (by omega) ?_
        refine sf_rv Iw13 rfl ?_
        refine sc_M_heading Iw13 (by rw [c24]; rw [c15]; exact sf_J3 f_1 F2) (fun v79 w80 Iw80 tw80 lv79 uv79 q81_0 q81_1 q81_2 q81_3 => ?_)
        rw [c15] at q81_0
        rw [c24] at q81_1
        rw [c15] at q81_1
        rw [c24] at q81_2
        rw [c15] at q81_2
        rw [c67] at q81_3
        rw [c15] at q81_3
        have c82 := sf_mf tw80 (p := 1) (j := 0) rfl
        have c83 := sf_mf tw80 (p := 1) (j := 5) rfl
        have c84 := sf_mf tw80 (p := 71) (j := 5) rfl
        have c85 := sf_mf tw80 (p := 13) (j := 1) rfl
        have c86 := sf_mf tw80 (p := 71) (j := 10) rfl
        have c87 := sf_mf tw80 (p := 21) (j := 1) rfl
        have c88 := sf_mf tw80 (p := 71) (j := 18) rfl
        have c89 := sf_mf tw80 (p := 35) (j := 0) rfl
        have c90 := sf_mf tw80 (p := 71) (j := 35) rfl
        have c91 := sf_ma tw80 (p := 3) rfl
        have c92 := sf_mg tw80 (p := 10) rfl
        have c93 := sf_ma tw80 (p := 93) rfl
        have c94 := sf_mL tw80 (p := 130) rfl
        have c95 := sf_ma tw80 (p := 2) rfl
        have c96 := sf_ma tw80 (p := 6) rfl
        have c97 := sf_ma tw80 (p := 75) rfl
        have c98 := sf_ma tw80 (p := 7) rfl
        have c99 := sf_ma tw80 (p := 76) rfl
        have c100 := sf_ma tw80 (p := 8) rfl
        have c101 := sf_ma tw80 (p := 77) rfl
        have c102 := sf_ma tw80 (p := 9) rfl
        have c103 := sf_ma tw80 (p := 78) rfl
        have c104 := sf_ma tw80 (p := 14) rfl
        have c105 := sf_ma tw80 (p := 79) rfl
        have c106 := sf_ma tw80 (p := 15) rfl
        have c107 := sf_ma tw80 (p := 80) rfl
        have c108 := sf_ma tw80 (p := 16) rfl
        have c109 := sf_ma tw80 (p := 81) rfl
        have c110 := sf_ma tw80 (p := 17) rfl
        have c111 := sf_ma tw80 (p := 82) rfl
        have c112 := sf_ma tw80 (p := 18) rfl
        have c113 := sf_ma tw80 (p := 83) rfl
        have c114 := sf_ma tw80 (p := 19) rfl
        have c115 := sf_ma tw80 (p := 84) rfl
        have c116 := sf_ma tw80 (p := 20) rfl
        have c117 := sf_ma tw80 (p := 85) rfl
        have c118 := sf_ma tw80 (p := 24) rfl
        have c119 := sf_ma tw80 (p := 86) rfl
        have c120 := sf_ma tw80 (p := 25) rfl
        have c121 := sf_ma tw80 (p := 87) rfl
        have c122 := sf_ma tw80 (p := 23) rfl
        have c123 := sf_ma tw80 (p := 88) rfl
        have c124 := sf_ma tw80 (p := 26) rfl
        have c125 := sf_ma tw80 (p := 89) rfl
        have c126 := sf_ma tw80 (p := 27) rfl
        have c127 := sf_ma tw80 (p := 90) rfl
        have c128 := sf_ma tw80 (p := 36) rfl
        have c129 := sf_ma tw80 (p := 102) rfl
        have c130 := sf_ma tw80 (p := 37) rfl
        have c131 := sf_ma tw80 (p := 103) rfl
        have c132 := sf_ma tw80 (p := 34) rfl
        have c133 := sf_ma tw80 (p := 30) rfl
        have c134 := sf_ma tw80 (p := 94) rfl
        have c135 := sf_ma tw80 (p := 95) rfl
        have c136 := sf_ma tw80 (p := 4) rfl
        have c137 := sf_ma tw80 (p := 5) rfl
        have c138 := sf_ma tw80 (p := 74) rfl
        have c139 := sf_ma tw80 (p := 29) rfl
        have c140 := sf_ma tw80 (p := 98) rfl
        have c141 := sf_mg tw80 (p := 31) rfl
        have c142 := sf_mg tw80 (p := 32) rfl
        have c143 := sf_mg tw80 (p := 33) rfl
        have c144 := sf_ma tw80 (p := 96) rfl
        have c145 := sf_ma tw80 (p := 97) rfl
        have UKm := q81_3
        clear q81_3
        have U72 := q81_2
        clear q81_2
        have G1 := q81_0
        have G2 := q81_1
        clear q81_0 q81_1
        have h00 := sf_hd I_w
        have hd3 : 0 ≤ (xs (x4.toInt.toNat + 1)).toInt → (xs (x4.toInt.toNat + 1)).toInt < (sf_f w 71 1).toInt → (sf_a w13 3 (xs (x4.toInt.toNat + 1)).toInt.toNat).toInt = (sf_a w 3 (xs (x4.toInt.toNat + 1)).toInt.toNat).toInt := fun h1 h2 => by rw [sf_F2d F2 h1 h2]
        have hrc : v12.toInt = (sf_f w80 71 0).toInt := by omega
        have hJ := sf_JH f_1 h00 F2 G2 hrc
        have hcn : (v12.toInt = 0 ∧ (sf_f w80 71 1).toInt = (sf_f w 71 1).toInt + 1) ∨ (v12.toInt ≠ 0 ∧ (sf_f w80 71 1).toInt = (sf_f w 71 1).toInt) := by omega
        have hQ2 := sf_QH f_3 U2 U72 (by omega) hrc hcn
        have hRK : sf_Q 24 (sf_a w13 4) (sf_a w80 73) ∧ sf_Q 24 (sf_a w 5) (sf_a w 74) := ⟨sm_QK f_23.1 UKc UKm (by omega) hrc, f_23.2⟩
        clear UKc UKm
        refine sf_istore (L' := [(5, .inl (.int v12)), (0, .inl (.ref 100000)), (1, .inl (.ref 0)), (2, .inl (.ref 71)), (3, .inl (.ref 130)), (4, .inl (.int x4))]) rfl ?_
        show kt_W_law_1428 N xs K _ _ _ _ _
        refine sf_iinc (L' := [(6, .inl (.int v79)), (5, .inl (.int v12)), (0, .inl (.ref 100000)), (1, .inl (.ref 0)), (2, .inl (.ref 71)), (3, .inl (.ref 130))]) (x := x4) sf_c8 rfl rfl (by omega) (fun v146 ev146 => ?_)
        refine sf_can (L' := [(0, .inl (.ref 100000)), (1, .inl (.ref 0)), (2, .inl (.ref 71)), (3, .inl (.ref 130)), (4, .inl (.int v146))]) rfl ?_
        exact ih _ _ _ _ Iw80 (by omega) (by omega) (by omega) (by omega) (by rw [c82]; rw [c83, c16]; rw [c84, c17]; rw [c85, c18]; rw [c86, c19]; rw [c87, c20]; rw [c88, c21]; rw [c89, c22]; rw [c90, c23]; omega) (by rw [c91]; first | exact f_1 | exact hJ) (by rw [c92, c25]; rw [c93, c26]; first | exact f_2 | exact hK2) (by rw [c95]; first | exact f_3 | exact hQ2) (by rw [c96, c27]; rw [c97, c28]; rw [c84, c17]; first | exact f_4 | exact hQ6) (by rw [c98, c29]; rw [c99, c30]; rw [c84, c17]; first | exact f_5 | exact hQ7) (by rw [c100, c31]; rw [c101, c32]; rw [c84, c17]; first | exact f_6 | exact hQ8) (by rw [c102, c33]; rw [c103, c34]; rw [c84, c17]; first | exact f_7 | exact hQ9) (by rw [c104, c35]; rw [c105, c36]; rw [c86, c19]; first | exact f_8 | exact hQ14) (by rw [c106, c37]; rw [c107, c38]; rw [c86, c19]; first | exact f_9 | exact hQ15) (by rw [c108, c39]; rw [c109, c40]; rw [c86, c19]; first | exact f_10 | exact hQ16) (by rw [c110, c41]; rw [c111, c42]; rw [c86, c19]; first | exact f_11 | exact hQ17) (by rw [c112, c43]; rw [c113, c44]; rw [c86, c19]; first | exact f_12 | exact hQ18) (by rw [c114, c45]; rw [c115, c46]; rw [c86, c19]; first | exact f_13 | exact hQ19) (by rw [c116, c47]; rw [c117, c48]; rw [c86, c19]; first | exact f_14 | exact hQ20) (by rw [c118, c49]; rw [c119, c50]; rw [c88, c21]; first | exact f_15 | exact hQ24) (by rw [c120, c51]; rw [c121, c52]; rw [c88, c21]; first | exact f_16 | exact hQ25) (by rw [c122, c53]; rw [c123, c54]; rw [c88, c21]; first | exact f_17 | exact hQ23) (by rw [c124, c55]; rw [c125, c56]; rw [c88, c21]; first | exact f_18 | exact hQ26) (by rw [c126, c57]; rw [c127, c58]; rw [c88, c21]; first | exact f_19 | exact hQ27) (by rw [c128, c59]; rw [c129, c60]; rw [c90, c23]; first | exact f_20 | exact hQ36) (by rw [c130, c61]; rw [c131, c62]; rw [c90, c23]; first | exact f_21 | exact hQ37) (by rw [c132, c63]; rw [c133, c64]; rw [c134, c65]; rw [c135, c66]; exact f_22) (by rw [c136]; rw [c137, c68]; rw [c138, c69]; exact hRK) (by rw [c139, c70]; rw [c140, c71]; exact f_24) (by rw [c141, c72]; rw [c135, c66]; rw [c142, c73]; rw [c144, c75]; rw [c143, c74]; rw [c145, c76]; rw [c134, c65]; exact f_25) (by omega)
      · clear h9
        refine sf_sw1 sf_c1 (fun h147 => ?_) (fun h147 => ?_)
        · refine sf_aload rfl ?_
          refine sf_aload rfl ?_
          refine sf_iload rfl ?_
          refine sf_iconst sf_c1 (fun z148 ez148 => ?_)
          refine sf_iadd (by omega) (fun v149 ev149 => ?_)
          refine sf_sldk (x := x4) (k := 1) (by omega) (by omega) (by omega) ?_
          clear ev149 ez148
          refine sf_aload rfl ?_
          refine sf_iload rfl ?_
          refine sf_iconst sf_c2 (fun z150 ez150 => ?_)
          refine sf_iadd (by omega) (fun v151 ev151 => ?_)
          refine sf_sldk (x := x4) (k := 2) (by omega) (by omega) (by omega) ?_
          clear ev151 ez150
          refine sf_aload rfl ?_
          refine sf_iload rfl ?_
          refine sf_iconst sf_c3 (fun z152 ez152 => ?_)
          refine sf_iadd (by omega) (fun v153 ev153 => ?_)
          refine sf_sldk (x := x4) (k := 3) (by omega) (by omega) (by omega) ?_
          clear ev153 ez152
          refine sf_aload rfl ?_
          refine sf_iload rfl ?_
          refine sf_iconst sf_c4 (fun z154 ez154 => ?_)
          refine sf_iadd (by omega) (fun v155 ev155 => ?_)
          refine sf_sldk (x := x4) (k := 4) (by omega) (by omega) (by omega) ?_
          clear ev155 ez154
          refine sf_aload rfl ?_
          refine sf_callv6 rfl (by omega) (by omega) ?_
          refine sc_W_note_0_130 I_w  (fun v156 w157 Iw157 tw157 lv156 uv156 q158_0 q158_1 q158_2 q158_3 q158_4 => ?_)
          have c159 := sf_mf tw157 (p := 1) (j := 0) rfl
          have c160 := sf_mf tw157 (p := 71) (j := 1) rfl
          have c161 := sf_mf tw157 (p := 71) (j := 5) rfl
          have c162 := sf_mf tw157 (p := 13) (j := 1) rfl
          have c163 := sf_mf tw157 (p := 71) (j := 10) rfl
          have c164 := sf_mf tw157 (p := 21) (j := 1) rfl
          have c165 := sf_mf tw157 (p := 71) (j := 18) rfl
          have c166 := sf_mf tw157 (p := 35) (j := 0) rfl
          have c167 := sf_mf tw157 (p := 71) (j := 35) rfl
          have c168 := sf_ma tw157 (p := 3) rfl
          have c169 := sf_ma tw157 (p := 72) rfl
          have c170 := sf_mg tw157 (p := 10) rfl
          have c171 := sf_ma tw157 (p := 93) rfl
          have c172 := sf_ma tw157 (p := 2) rfl
          have c173 := sf_ma tw157 (p := 75) rfl
          have c174 := sf_ma tw157 (p := 76) rfl
          have c175 := sf_ma tw157 (p := 77) rfl
          have c176 := sf_ma tw157 (p := 78) rfl
          have c177 := sf_ma tw157 (p := 14) rfl
          have c178 := sf_ma tw157 (p := 79) rfl
          have c179 := sf_ma tw157 (p := 15) rfl
          have c180 := sf_ma tw157 (p := 80) rfl
          have c181 := sf_ma tw157 (p := 16) rfl
          have c182 := sf_ma tw157 (p := 81) rfl
          have c183 := sf_ma tw157 (p := 17) rfl
          have c184 := sf_ma tw157 (p := 82) rfl
          have c185 := sf_ma tw157 (p := 18) rfl
          have c186 := sf_ma tw157 (p := 83) rfl
          have c187 := sf_ma tw157 (p := 19) rfl
          have c188 := sf_ma tw157 (p := 84) rfl
          have c189 := sf_ma tw157 (p := 20) rfl
          have c190 := sf_ma tw157 (p := 85) rfl
          have c191 := sf_ma tw157 (p := 24) rfl
          have c192 := sf_ma tw157 (p := 86) rfl
          have c193 := sf_ma tw157 (p := 25) rfl
          have c194 := sf_ma tw157 (p := 87) rfl
          have c195 := sf_ma tw157 (p := 23) rfl
          have c196 := sf_ma tw157 (p := 88) rfl
          have c197 := sf_ma tw157 (p := 26) rfl
          have c198 := sf_ma tw157 (p := 89) rfl
          have c199 := sf_ma tw157 (p := 27) rfl
          have c200 := sf_ma tw157 (p := 90) rfl
          have c201 := sf_ma tw157 (p := 36) rfl
          have c202 := sf_ma tw157 (p := 102) rfl
          have c203 := sf_ma tw157 (p := 37) rfl
          have c204 := sf_ma tw157 (p := 103) rfl
          have c205 := sf_ma tw157 (p := 34) rfl
          have c206 := sf_ma tw157 (p := 30) rfl
          have c207 := sf_ma tw157 (p := 94) rfl
          have c208 := sf_ma tw157 (p := 95) rfl
          have c209 := sf_ma tw157 (p := 4) rfl
          have c210 := sf_ma tw157 (p := 73) rfl
          have c211 := sf_ma tw157 (p := 5) rfl
          have c212 := sf_ma tw157 (p := 74) rfl
          have c213 := sf_ma tw157 (p := 29) rfl
          have c214 := sf_ma tw157 (p := 98) rfl
          have c215 := sf_mg tw157 (p := 31) rfl
          have c216 := sf_mg tw157 (p := 32) rfl
          have c217 := sf_mg tw157 (p := 33) rfl
          have c218 := sf_ma tw157 (p := 96) rfl
          have c219 := sf_ma tw157 (p := 97) rfl
          have U6 := q158_1
          have U7 := q158_2
          have U8 := q158_3
          have U9 := q158_4
          clear q158_1 q158_2 q158_3 q158_4
          have F1 := q158_0
          refine sf_istore (L' := [(0, .inl (.ref 100000)), (1, .inl (.ref 0)), (2, .inl (.ref 71)), (3, .inl (.ref 130)), (4, .inl (.int x4))]) rfl ?_
          refine sf_aload rfl ?_
          refine sf_aload rfl ?_
          refine sf_iload rfl ?_
          refine sf_iconst sf_c1 (fun z220 ez220 => ?_)
          refine sf_iadd (by omega) (fun v221 ev221 => ?_)
          refine sf_sldk (x := x4) (k := 1) (by omega) (by omega) (by omega) ?_
          clear ev221 ez220
          refine sf_aload rfl ?_
          refine sf_iload rfl ?_
          refine sf_iconst sf_c2 (fun z222 ez222 => ?_)
          refine sf_iadd (by omega) (fun v223 ev223 => ?_)
          refine sf_sldk (x := x4) (k := 2) (by omega) (by omega) (by omega) ?_
          clear ev223 ez222
          refine sf_aload rfl ?_
          refine sf_iload rfl ?_
          refine sf_iconst sf_c3 (fun z224 ez224 => ?_)
          refine sf_iadd (by omega) (fun v225 ev225 => ?_)
          refine sf_sldk (x := x4) (k := 3) (by omega) (by omega) (by omega) ?_
          clear ev225 ez224
          refine sf_aload rfl ?_
          refine sf_iload rfl ?_
          refine sf_iconst sf_c4 (fun z226 ez226 => ?_)
          refine sf_iadd (by omega) (fun v227 ev227 => ?_)
          refine sf_sldk (x := x4) (k := 4) (by omega) (by omega) (by omega) ?_
          clear ev227 ez226
          refine sf_callv5 rfl (by omega) (by omega) ?_
          refine sf_rv Iw157 rfl ?_
          refine sc_M_note Iw157  (fun v228 w229 Iw229 tw229 lv228 uv228 q230_0 q230_1 q230_2 q230_3 q230_4 => ?_)
          rw [c160] at q230_0
          rw [c161] at q230_0
          rw [c173] at q230_1
          rw [c161] at q230_1
          rw [c174] at q230_2
          rw [c161] at q230_2
          rw [c175] at q230_3
          rw [c161] at q230_3
          rw [c176] at q230_4
          rw [c161] at q230_4
          have c231 := sf_mf tw229 (p := 1) (j := 0) rfl
          have c232 := sf_mf tw229 (p := 71) (j := 1) rfl
          have c233 := sf_mf tw229 (p := 1) (j := 5) rfl
          have c234 := sf_mf tw229 (p := 13) (j := 1) rfl
          have c235 := sf_mf tw229 (p := 71) (j := 10) rfl
          have c236 := sf_mf tw229 (p := 21) (j := 1) rfl
          have c237 := sf_mf tw229 (p := 71) (j := 18) rfl
          have c238 := sf_mf tw229 (p := 35) (j := 0) rfl
          have c239 := sf_mf tw229 (p := 71) (j := 35) rfl
          have c240 := sf_ma tw229 (p := 3) rfl
          have c241 := sf_ma tw229 (p := 72) rfl
          have c242 := sf_mg tw229 (p := 10) rfl
          have c243 := sf_ma tw229 (p := 93) rfl
          have c244 := sf_mL tw229 (p := 130) rfl
          have c245 := sf_ma tw229 (p := 2) rfl
          have c246 := sf_ma tw229 (p := 6) rfl
          have c247 := sf_ma tw229 (p := 7) rfl
          have c248 := sf_ma tw229 (p := 8) rfl
          have c249 := sf_ma tw229 (p := 9) rfl
          have c250 := sf_ma tw229 (p := 14) rfl
          have c251 := sf_ma tw229 (p := 79) rfl
          have c252 := sf_ma tw229 (p := 15) rfl
          have c253 := sf_ma tw229 (p := 80) rfl
          have c254 := sf_ma tw229 (p := 16) rfl
          have c255 := sf_ma tw229 (p := 81) rfl
          have c256 := sf_ma tw229 (p := 17) rfl
          have c257 := sf_ma tw229 (p := 82) rfl
          have c258 := sf_ma tw229 (p := 18) rfl
          have c259 := sf_ma tw229 (p := 83) rfl
          have c260 := sf_ma tw229 (p := 19) rfl
          have c261 := sf_ma tw229 (p := 84) rfl
          have c262 := sf_ma tw229 (p := 20) rfl
          have c263 := sf_ma tw229 (p := 85) rfl
          have c264 := sf_ma tw229 (p := 24) rfl
          have c265 := sf_ma tw229 (p := 86) rfl
          have c266 := sf_ma tw229 (p := 25) rfl
          have c267 := sf_ma tw229 (p := 87) rfl
          have c268 := sf_ma tw229 (p := 23) rfl
          have c269 := sf_ma tw229 (p := 88) rfl
          have c270 := sf_ma tw229 (p := 26) rfl
          have c271 := sf_ma tw229 (p := 89) rfl
          have c272 := sf_ma tw229 (p := 27) rfl
          have c273 := sf_ma tw229 (p := 90) rfl
          have c274 := sf_ma tw229 (p := 36) rfl
          have c275 := sf_ma tw229 (p := 102) rfl
          have c276 := sf_ma tw229 (p := 37) rfl
          have c277 := sf_ma tw229 (p := 103) rfl
          have c278 := sf_ma tw229 (p := 34) rfl
          have c279 := sf_ma tw229 (p := 30) rfl
          have c280 := sf_ma tw229 (p := 94) rfl
          have c281 := sf_ma tw229 (p := 95) rfl
          have c282 := sf_ma tw229 (p := 4) rfl
          have c283 := sf_ma tw229 (p := 73) rfl
          have c284 := sf_ma tw229 (p := 5) rfl
          have c285 := sf_ma tw229 (p := 74) rfl
          have c286 := sf_ma tw229 (p := 29) rfl
          have c287 := sf_ma tw229 (p := 98) rfl
          have c288 := sf_mg tw229 (p := 31) rfl
          have c289 := sf_mg tw229 (p := 32) rfl
          have c290 := sf_mg tw229 (p := 33) rfl
          have c291 := sf_ma tw229 (p := 96) rfl
          have c292 := sf_ma tw229 (p := 97) rfl
          have U75 := q230_1
          have U76 := q230_2
          have U77 := q230_3
          have U78 := q230_4
          clear q230_1 q230_2 q230_3 q230_4
          have G1 := q230_0
          have hrc : v156.toInt = (sf_f w229 71 0).toInt := by omega
          have hcn : (v156.toInt = 0 ∧ (sf_f w229 71 5).toInt = (sf_f w 71 5).toInt + 1) ∨ (v156.toInt ≠ 0 ∧ (sf_f w229 71 5).toInt = (sf_f w 71 5).toInt) := by omega
          have hQ6 := sf_QH f_4 U6 U75 (by omega) hrc hcn
          have hQ7 := sf_QH f_5 U7 U76 (by omega) hrc hcn
          have hQ8 := sf_QH f_6 U8 U77 (by omega) hrc hcn
          have hQ9 := sf_QH f_7 U9 U78 (by omega) hrc hcn
          refine sf_istore (L' := [(5, .inl (.int v156)), (0, .inl (.ref 100000)), (1, .inl (.ref 0)), (2, .inl (.ref 71)), (3, .inl (.ref 130)), (4, .inl (.int x4))]) rfl ?_
          show kt_W_law_1428 N xs K _ _ _ _ _
          refine sf_iinc (L' := [(6, .inl (.int v228)), (5, .inl (.int v156)), (0, .inl (.ref 100000)), (1, .inl (.ref 0)), (2, .inl (.ref 71)), (3, .inl (.ref 130))]) (x := x4) sf_c8 rfl rfl (by omega) (fun v293 ev293 => ?_)
          refine sf_can (L' := [(0, .inl (.ref 100000)), (1, .inl (.ref 0)), (2, .inl (.ref 71)), (3, .inl (.ref 130)), (4, .inl (.int v293))]) rfl ?_
          exact ih _ _ _ _ Iw229 (by omega) (by omega) (by omega) (by omega) (by rw [c231, c159]; rw [c232, c160]; rw [c233]; rw [c234, c162]; rw [c235, c163]; rw [c236, c164]; rw [c237, c165]; rw [c238, c166]; rw [c239, c167]; omega) (by rw [c240, c168]; rw [c241, c169]; rw [c232, c160]; first | exact f_1 | exact hJ) (by rw [c242, c170]; rw [c243, c171]; first | exact f_2 | exact hK2) (by rw [c245, c172]; rw [c241, c169]; rw [c232, c160]; first | exact f_3 | exact hQ2) (by rw [c246]; first | exact f_4 | exact hQ6) (by rw [c247]; first | exact f_5 | exact hQ7) (by rw [c248]; first | exact f_6 | exact hQ8) (by rw [c249]; first | exact f_7 | exact hQ9) (by rw [c250, c177]; rw [c251, c178]; rw [c235, c163]; first | exact f_8 | exact hQ14) (by rw [c252, c179]; rw [c253, c180]; rw [c235, c163]; first | exact f_9 | exact hQ15) (by rw [c254, c181]; rw [c255, c182]; rw [c235, c163]; first | exact f_10 | exact hQ16) (by rw [c256, c183]; rw [c257, c184]; rw [c235, c163]; first | exact f_11 | exact hQ17) (by rw [c258, c185]; rw [c259, c186]; rw [c235, c163]; first | exact f_12 | exact hQ18) (by rw [c260, c187]; rw [c261, c188]; rw [c235, c163]; first | exact f_13 | exact hQ19) (by rw [c262, c189]; rw [c263, c190]; rw [c235, c163]; first | exact f_14 | exact hQ20) (by rw [c264, c191]; rw [c265, c192]; rw [c237, c165]; first | exact f_15 | exact hQ24) (by rw [c266, c193]; rw [c267, c194]; rw [c237, c165]; first | exact f_16 | exact hQ25) (by rw [c268, c195]; rw [c269, c196]; rw [c237, c165]; first | exact f_17 | exact hQ23) (by rw [c270, c197]; rw [c271, c198]; rw [c237, c165]; first | exact f_18 | exact hQ26) (by rw [c272, c199]; rw [c273, c200]; rw [c237, c165]; first | exact f_19 | exact hQ27) (by rw [c274, c201]; rw [c275, c202]; rw [c239, c167]; first | exact f_20 | exact hQ36) (by rw [c276, c203]; rw [c277, c204]; rw [c239, c167]; first | exact f_21 | exact hQ37) (by rw [c278, c205]; rw [c279, c206]; rw [c280, c207]; rw [c281, c208]; exact f_22) (by rw [c282, c209]; rw [c283, c210]; rw [c284, c211]; rw [c285, c212]; exact f_23) (by rw [c286, c213]; rw [c287, c214]; exact f_24) (by rw [c288, c215]; rw [c281, c208]; rw [c289, c216]; rw [c291, c218]; rw [c290, c217]; rw [c292, c219]; rw [c280, c207]; exact f_25) (by omega)
        · clear h147
          refine sf_sw1 sf_c2 (fun h294 => ?_) (fun h294 => ?_)
          · refine sf_aload rfl ?_
            refine sf_aload rfl ?_
            refine sf_iload rfl ?_
            refine sf_iconst sf_c1 (fun z295 ez295 => ?_)
            refine sf_iadd (by omega) (fun v296 ev296 => ?_)
            refine sf_sldk (x := x4) (k := 1) (by omega) (by omega) (by omega) ?_
            clear ev296 ez295
            refine sf_aload rfl ?_
            refine sf_iload rfl ?_
            refine sf_iconst sf_c2 (fun z297 ez297 => ?_)
            refine sf_iadd (by omega) (fun v298 ev298 => ?_)
            refine sf_sldk (x := x4) (k := 2) (by omega) (by omega) (by omega) ?_
            clear ev298 ez297
            refine sf_aload rfl ?_
            refine sf_iload rfl ?_
            refine sf_iconst sf_c3 (fun z299 ez299 => ?_)
            refine sf_iadd (by omega) (fun v300 ev300 => ?_)
            refine sf_sldk (x := x4) (k := 3) (by omega) (by omega) (by omega) ?_
            clear ev300 ez299
            refine sf_aload rfl ?_
            refine sf_callv5 rfl (by omega) (by omega) ?_
            refine sc_W_fact_0_130 I_w  (fun v301 w302 Iw302 tw302 lv301 uv301 q303_0 q303_1 => ?_)
            have c304 := sf_mf tw302 (p := 1) (j := 0) rfl
            have c305 := sf_mf tw302 (p := 71) (j := 1) rfl
            have c306 := sf_mf tw302 (p := 1) (j := 5) rfl
            have c307 := sf_mf tw302 (p := 71) (j := 5) rfl
            have c308 := sf_mf tw302 (p := 13) (j := 1) rfl
            have c309 := sf_mf tw302 (p := 71) (j := 10) rfl
            have c310 := sf_mf tw302 (p := 21) (j := 1) rfl
            have c311 := sf_mf tw302 (p := 71) (j := 18) rfl
            have c312 := sf_mf tw302 (p := 35) (j := 0) rfl
            have c313 := sf_mf tw302 (p := 71) (j := 35) rfl
            have c314 := sf_ma tw302 (p := 3) rfl
            have c315 := sf_ma tw302 (p := 72) rfl
            have c316 := sf_ma tw302 (p := 93) rfl
            have c317 := sf_ma tw302 (p := 2) rfl
            have c318 := sf_ma tw302 (p := 6) rfl
            have c319 := sf_ma tw302 (p := 75) rfl
            have c320 := sf_ma tw302 (p := 7) rfl
            have c321 := sf_ma tw302 (p := 76) rfl
            have c322 := sf_ma tw302 (p := 8) rfl
            have c323 := sf_ma tw302 (p := 77) rfl
            have c324 := sf_ma tw302 (p := 9) rfl
            have c325 := sf_ma tw302 (p := 78) rfl
            have c326 := sf_ma tw302 (p := 14) rfl
            have c327 := sf_ma tw302 (p := 79) rfl
            have c328 := sf_ma tw302 (p := 15) rfl
            have c329 := sf_ma tw302 (p := 80) rfl
            have c330 := sf_ma tw302 (p := 16) rfl
            have c331 := sf_ma tw302 (p := 81) rfl
            have c332 := sf_ma tw302 (p := 17) rfl
            have c333 := sf_ma tw302 (p := 82) rfl
            have c334 := sf_ma tw302 (p := 18) rfl
            have c335 := sf_ma tw302 (p := 83) rfl
            have c336 := sf_ma tw302 (p := 19) rfl
            have c337 := sf_ma tw302 (p := 84) rfl
            have c338 := sf_ma tw302 (p := 20) rfl
            have c339 := sf_ma tw302 (p := 85) rfl
            have c340 := sf_ma tw302 (p := 24) rfl
            have c341 := sf_ma tw302 (p := 86) rfl
            have c342 := sf_ma tw302 (p := 25) rfl
            have c343 := sf_ma tw302 (p := 87) rfl
            have c344 := sf_ma tw302 (p := 23) rfl
            have c345 := sf_ma tw302 (p := 88) rfl
            have c346 := sf_ma tw302 (p := 26) rfl
            have c347 := sf_ma tw302 (p := 89) rfl
            have c348 := sf_ma tw302 (p := 27) rfl
            have c349 := sf_ma tw302 (p := 90) rfl
            have c350 := sf_ma tw302 (p := 36) rfl
            have c351 := sf_ma tw302 (p := 102) rfl
            have c352 := sf_ma tw302 (p := 37) rfl
            have c353 := sf_ma tw302 (p := 103) rfl
            have c354 := sf_ma tw302 (p := 34) rfl
            have c355 := sf_ma tw302 (p := 30) rfl
            have c356 := sf_ma tw302 (p := 94) rfl
            have c357 := sf_ma tw302 (p := 95) rfl
            have c358 := sf_ma tw302 (p := 4) rfl
            have c359 := sf_ma tw302 (p := 73) rfl
            have c360 := sf_ma tw302 (p := 5) rfl
            have c361 := sf_ma tw302 (p := 74) rfl
            have c362 := sf_ma tw302 (p := 29) rfl
            have c363 := sf_ma tw302 (p := 98) rfl
            have c364 := sf_mg tw302 (p := 31) rfl
            have c365 := sf_mg tw302 (p := 32) rfl
            have c366 := sf_mg tw302 (p := 33) rfl
            have c367 := sf_ma tw302 (p := 96) rfl
            have c368 := sf_ma tw302 (p := 97) rfl
            have F1 := q303_0
            have F2 := q303_1
            clear q303_0 q303_1
            refine sf_istore (L' := [(0, .inl (.ref 100000)), (1, .inl (.ref 0)), (2, .inl (.ref 71)), (3, .inl (.ref 130)), (4, .inl (.int x4))]) rfl ?_
            refine sf_aload rfl ?_
            refine sf_aload rfl ?_
            refine sf_iload rfl ?_
            refine sf_iconst sf_c1 (fun z369 ez369 => ?_)
            refine sf_iadd (by omega) (fun v370 ev370 => ?_)
            refine sf_sldk (x := x4) (k := 1) (by omega) (by omega) (by omega) ?_
            clear ev370 ez369
            refine sf_aload rfl ?_
            refine sf_iload rfl ?_
            refine sf_iconst sf_c2 (fun z371 ez371 => ?_)
            refine sf_iadd (by omega) (fun v372 ev372 => ?_)
            refine sf_sldk (x := x4) (k := 2) (by omega) (by omega) (by omega) ?_
            clear ev372 ez371
            refine sf_aload rfl ?_
            refine sf_iload rfl ?_
            refine sf_iconst sf_c3 (fun z373 ez373 => ?_)
            refine sf_iadd (by omega) (fun v374 ev374 => ?_)
            refine sf_sldk (x := x4) (k := 3) (by omega) (by omega) (by omega) ?_
            clear ev374 ez373
            refine sf_callv4 rfl (by omega) (by omega) ?_
            refine sf_rv Iw302 rfl ?_
            refine sc_M_fact Iw302  (fun v375 w376 Iw376 tw376 lv375 uv375 q377_0 q377_1 => ?_)
            rw [c316] at q377_0
            rw [c316] at q377_1
            have c378 := sf_mf tw376 (p := 1) (j := 0) rfl
            have c379 := sf_mf tw376 (p := 71) (j := 1) rfl
            have c380 := sf_mf tw376 (p := 1) (j := 5) rfl
            have c381 := sf_mf tw376 (p := 71) (j := 5) rfl
            have c382 := sf_mf tw376 (p := 13) (j := 1) rfl
            have c383 := sf_mf tw376 (p := 71) (j := 10) rfl
            have c384 := sf_mf tw376 (p := 21) (j := 1) rfl
            have c385 := sf_mf tw376 (p := 71) (j := 18) rfl
            have c386 := sf_mf tw376 (p := 35) (j := 0) rfl
            have c387 := sf_mf tw376 (p := 71) (j := 35) rfl
            have c388 := sf_ma tw376 (p := 3) rfl
            have c389 := sf_ma tw376 (p := 72) rfl
            have c390 := sf_mg tw376 (p := 10) rfl
            have c391 := sf_mL tw376 (p := 130) rfl
            have c392 := sf_ma tw376 (p := 2) rfl
            have c393 := sf_ma tw376 (p := 6) rfl
            have c394 := sf_ma tw376 (p := 75) rfl
            have c395 := sf_ma tw376 (p := 7) rfl
            have c396 := sf_ma tw376 (p := 76) rfl
            have c397 := sf_ma tw376 (p := 8) rfl
            have c398 := sf_ma tw376 (p := 77) rfl
            have c399 := sf_ma tw376 (p := 9) rfl
            have c400 := sf_ma tw376 (p := 78) rfl
            have c401 := sf_ma tw376 (p := 14) rfl
            have c402 := sf_ma tw376 (p := 79) rfl
            have c403 := sf_ma tw376 (p := 15) rfl
            have c404 := sf_ma tw376 (p := 80) rfl
            have c405 := sf_ma tw376 (p := 16) rfl
            have c406 := sf_ma tw376 (p := 81) rfl
            have c407 := sf_ma tw376 (p := 17) rfl
            have c408 := sf_ma tw376 (p := 82) rfl
            have c409 := sf_ma tw376 (p := 18) rfl
            have c410 := sf_ma tw376 (p := 83) rfl
            have c411 := sf_ma tw376 (p := 19) rfl
            have c412 := sf_ma tw376 (p := 84) rfl
            have c413 := sf_ma tw376 (p := 20) rfl
            have c414 := sf_ma tw376 (p := 85) rfl
            have c415 := sf_ma tw376 (p := 24) rfl
            have c416 := sf_ma tw376 (p := 86) rfl
            have c417 := sf_ma tw376 (p := 25) rfl
            have c418 := sf_ma tw376 (p := 87) rfl
            have c419 := sf_ma tw376 (p := 23) rfl
            have c420 := sf_ma tw376 (p := 88) rfl
            have c421 := sf_ma tw376 (p := 26) rfl
            have c422 := sf_ma tw376 (p := 89) rfl
            have c423 := sf_ma tw376 (p := 27) rfl
            have c424 := sf_ma tw376 (p := 90) rfl
            have c425 := sf_ma tw376 (p := 36) rfl
            have c426 := sf_ma tw376 (p := 102) rfl
            have c427 := sf_ma tw376 (p := 37) rfl
            have c428 := sf_ma tw376 (p := 103) rfl
            have c429 := sf_ma tw376 (p := 34) rfl
            have c430 := sf_ma tw376 (p := 30) rfl
            have c431 := sf_ma tw376 (p := 94) rfl
            have c432 := sf_ma tw376 (p := 95) rfl
            have c433 := sf_ma tw376 (p := 4) rfl
            have c434 := sf_ma tw376 (p := 73) rfl
            have c435 := sf_ma tw376 (p := 5) rfl
            have c436 := sf_ma tw376 (p := 74) rfl
            have c437 := sf_ma tw376 (p := 29) rfl
            have c438 := sf_ma tw376 (p := 98) rfl
            have c439 := sf_mg tw376 (p := 31) rfl
            have c440 := sf_mg tw376 (p := 32) rfl
            have c441 := sf_mg tw376 (p := 33) rfl
            have c442 := sf_ma tw376 (p := 96) rfl
            have c443 := sf_ma tw376 (p := 97) rfl
            have G1 := q377_0
            have G2 := q377_1
            clear q377_0 q377_1
            have hK2 : sf_K (sf_g w302 10) (sf_a w376 93) := by
              rcases F2 with ⟨h1, h2⟩ | ⟨h1, h2, h3⟩ <;> rcases G2 with ⟨g1, g2⟩ | ⟨g1, g2, g3⟩
              · rw [h2, g2]; exact f_2
              · exfalso; omega
              · exfalso; omega
              · rw [h2, g2]; exact sf_KF f_2 (by omega) (by omega)
            have hKv : v301.toInt = 0 → (sf_g w 10 (xs (x4.toInt.toNat + 1)).toInt.toNat (xs (x4.toInt.toNat + 2)).toInt.toNat).toInt = (sf_a w 93 (8 * (xs (x4.toInt.toNat + 1)).toInt + (xs (x4.toInt.toNat + 2)).toInt).toNat).toInt := fun h1 => sf_Kv f_2 (by omega) (by omega)
            clear F2 G2
            refine sf_istore (L' := [(5, .inl (.int v301)), (0, .inl (.ref 100000)), (1, .inl (.ref 0)), (2, .inl (.ref 71)), (3, .inl (.ref 130)), (4, .inl (.int x4))]) rfl ?_
            show kt_W_law_1428 N xs K _ _ _ _ _
            refine sf_iinc (L' := [(6, .inl (.int v375)), (5, .inl (.int v301)), (0, .inl (.ref 100000)), (1, .inl (.ref 0)), (2, .inl (.ref 71)), (3, .inl (.ref 130))]) (x := x4) sf_c8 rfl rfl (by omega) (fun v444 ev444 => ?_)
            refine sf_can (L' := [(0, .inl (.ref 100000)), (1, .inl (.ref 0)), (2, .inl (.ref 71)), (3, .inl (.ref 130)), (4, .inl (.int v444))]) rfl ?_
            exact ih _ _ _ _ Iw376 (by omega) (by omega) (by omega) (by omega) (by rw [c378, c304]; rw [c379, c305]; rw [c380, c306]; rw [c381, c307]; rw [c382, c308]; rw [c383, c309]; rw [c384, c310]; rw [c385, c311]; rw [c386, c312]; rw [c387, c313]; omega) (by rw [c388, c314]; rw [c389, c315]; rw [c379, c305]; first | exact f_1 | exact hJ) (by rw [c390]; first | exact f_2 | exact hK2) (by rw [c392, c317]; rw [c389, c315]; rw [c379, c305]; first | exact f_3 | exact hQ2) (by rw [c393, c318]; rw [c394, c319]; rw [c381, c307]; first | exact f_4 | exact hQ6) (by rw [c395, c320]; rw [c396, c321]; rw [c381, c307]; first | exact f_5 | exact hQ7) (by rw [c397, c322]; rw [c398, c323]; rw [c381, c307]; first | exact f_6 | exact hQ8) (by rw [c399, c324]; rw [c400, c325]; rw [c381, c307]; first | exact f_7 | exact hQ9) (by rw [c401, c326]; rw [c402, c327]; rw [c383, c309]; first | exact f_8 | exact hQ14) (by rw [c403, c328]; rw [c404, c329]; rw [c383, c309]; first | exact f_9 | exact hQ15) (by rw [c405, c330]; rw [c406, c331]; rw [c383, c309]; first | exact f_10 | exact hQ16) (by rw [c407, c332]; rw [c408, c333]; rw [c383, c309]; first | exact f_11 | exact hQ17) (by rw [c409, c334]; rw [c410, c335]; rw [c383, c309]; first | exact f_12 | exact hQ18) (by rw [c411, c336]; rw [c412, c337]; rw [c383, c309]; first | exact f_13 | exact hQ19) (by rw [c413, c338]; rw [c414, c339]; rw [c383, c309]; first | exact f_14 | exact hQ20) (by rw [c415, c340]; rw [c416, c341]; rw [c385, c311]; first | exact f_15 | exact hQ24) (by rw [c417, c342]; rw [c418, c343]; rw [c385, c311]; first | exact f_16 | exact hQ25) (by rw [c419, c344]; rw [c420, c345]; rw [c385, c311]; first | exact f_17 | exact hQ23) (by rw [c421, c346]; rw [c422, c347]; rw [c385, c311]; first | exact f_18 | exact hQ26) (by rw [c423, c348]; rw [c424, c349]; rw [c385, c311]; first | exact f_19 | exact hQ27) (by rw [c425, c350]; rw [c426, c351]; rw [c387, c313]; first | exact f_20 | exact hQ36) (by rw [c427, c352]; rw [c428, c353]; rw [c387, c313]; first | exact f_21 | exact hQ37) (by rw [c429, c354]; rw [c430, c355]; rw [c431, c356]; rw [c432, c357]; exact f_22) (by rw [c433, c358]; rw [c434, c359]; rw [c435, c360]; rw [c436, c361]; exact f_23) (by rw [c437, c362]; rw [c438, c363]; exact f_24) (by rw [c439, c364]; rw [c432, c357]; rw [c440, c365]; rw [c442, c367]; rw [c441, c366]; rw [c443, c368]; rw [c431, c356]; exact f_25) (by omega)
          · clear h294
            refine sf_sw1 sf_c3 (fun h445 => ?_) (fun h445 => ?_)
            · refine sf_aload rfl ?_
              refine sf_aload rfl ?_
              refine sf_iload rfl ?_
              refine sf_iconst sf_c1 (fun z446 ez446 => ?_)
              refine sf_iadd (by omega) (fun v447 ev447 => ?_)
              refine sf_sldk (x := x4) (k := 1) (by omega) (by omega) (by omega) ?_
              clear ev447 ez446
              refine sf_aload rfl ?_
              refine sf_callv3 rfl (by omega) (by omega) ?_
              refine sc_W_classify_0_130 I_w (by exact sf_JQ f_1 f_3 (by omega)) (fun v448 w449 Iw449 tw449 lv448 uv448 q450_0 => ?_)
              have c451 := sf_mf tw449 (p := 1) (j := 0) rfl
              have c452 := sf_mf tw449 (p := 71) (j := 1) rfl
              have c453 := sf_mf tw449 (p := 1) (j := 5) rfl
              have c454 := sf_mf tw449 (p := 71) (j := 5) rfl
              have c455 := sf_mf tw449 (p := 13) (j := 1) rfl
              have c456 := sf_mf tw449 (p := 71) (j := 10) rfl
              have c457 := sf_mf tw449 (p := 21) (j := 1) rfl
              have c458 := sf_mf tw449 (p := 71) (j := 18) rfl
              have c459 := sf_mf tw449 (p := 35) (j := 0) rfl
              have c460 := sf_mf tw449 (p := 71) (j := 35) rfl
              have c461 := sf_ma tw449 (p := 3) rfl
              have c462 := sf_ma tw449 (p := 72) rfl
              have c463 := sf_mg tw449 (p := 10) rfl
              have c464 := sf_ma tw449 (p := 93) rfl
              have c465 := sf_ma tw449 (p := 2) rfl
              have c466 := sf_ma tw449 (p := 6) rfl
              have c467 := sf_ma tw449 (p := 75) rfl
              have c468 := sf_ma tw449 (p := 7) rfl
              have c469 := sf_ma tw449 (p := 76) rfl
              have c470 := sf_ma tw449 (p := 8) rfl
              have c471 := sf_ma tw449 (p := 77) rfl
              have c472 := sf_ma tw449 (p := 9) rfl
              have c473 := sf_ma tw449 (p := 78) rfl
              have c474 := sf_ma tw449 (p := 14) rfl
              have c475 := sf_ma tw449 (p := 79) rfl
              have c476 := sf_ma tw449 (p := 15) rfl
              have c477 := sf_ma tw449 (p := 80) rfl
              have c478 := sf_ma tw449 (p := 16) rfl
              have c479 := sf_ma tw449 (p := 81) rfl
              have c480 := sf_ma tw449 (p := 17) rfl
              have c481 := sf_ma tw449 (p := 82) rfl
              have c482 := sf_ma tw449 (p := 18) rfl
              have c483 := sf_ma tw449 (p := 83) rfl
              have c484 := sf_ma tw449 (p := 19) rfl
              have c485 := sf_ma tw449 (p := 84) rfl
              have c486 := sf_ma tw449 (p := 20) rfl
              have c487 := sf_ma tw449 (p := 85) rfl
              have c488 := sf_ma tw449 (p := 24) rfl
              have c489 := sf_ma tw449 (p := 86) rfl
              have c490 := sf_ma tw449 (p := 25) rfl
              have c491 := sf_ma tw449 (p := 87) rfl
              have c492 := sf_ma tw449 (p := 23) rfl
              have c493 := sf_ma tw449 (p := 88) rfl
              have c494 := sf_ma tw449 (p := 26) rfl
              have c495 := sf_ma tw449 (p := 89) rfl
              have c496 := sf_ma tw449 (p := 27) rfl
              have c497 := sf_ma tw449 (p := 90) rfl
              have c498 := sf_ma tw449 (p := 36) rfl
              have c499 := sf_ma tw449 (p := 102) rfl
              have c500 := sf_ma tw449 (p := 37) rfl
              have c501 := sf_ma tw449 (p := 103) rfl
              have c502 := sf_ma tw449 (p := 34) rfl
              have c503 := sf_ma tw449 (p := 30) rfl
              have c504 := sf_ma tw449 (p := 94) rfl
              have c505 := sf_ma tw449 (p := 95) rfl
              have c506 := sf_ma tw449 (p := 4) rfl
              have c507 := sf_ma tw449 (p := 73) rfl
              have c508 := sf_ma tw449 (p := 5) rfl
              have c509 := sf_ma tw449 (p := 74) rfl
              have c510 := sf_ma tw449 (p := 29) rfl
              have c511 := sf_ma tw449 (p := 98) rfl
              have c512 := sf_mg tw449 (p := 31) rfl
              have c513 := sf_mg tw449 (p := 32) rfl
              have c514 := sf_mg tw449 (p := 33) rfl
              have c515 := sf_ma tw449 (p := 96) rfl
              have c516 := sf_ma tw449 (p := 97) rfl
              have F1 := q450_0
              refine sf_istore (L' := [(0, .inl (.ref 100000)), (1, .inl (.ref 0)), (2, .inl (.ref 71)), (3, .inl (.ref 130)), (4, .inl (.int x4))]) rfl ?_
              refine sf_aload rfl ?_
              refine sf_aload rfl ?_
              refine sf_iload rfl ?_
              refine sf_iconst sf_c1 (fun z517 ez517 => ?_)
              refine sf_iadd (by omega) (fun v518 ev518 => ?_)
              refine sf_sldk (x := x4) (k := 1) (by omega) (by omega) (by omega) ?_
              clear ev518 ez517
              refine sf_callv2 rfl (by omega) (by omega) ?_
              refine sf_rv Iw449 rfl ?_
              refine sc_M_classify Iw449 (by rw [c461]; rw [c462]; rw [c452]; exact f_1) (fun v519 w520 Iw520 tw520 lv519 uv519 q521_0 => ?_)
              rw [c461] at q521_0
              rw [c462] at q521_0
              rw [c467] at q521_0
              rw [c469] at q521_0
              rw [c471] at q521_0
              rw [c473] at q521_0
              rw [c464] at q521_0
              rw [c452] at q521_0
              rw [c454] at q521_0
              have c522 := sf_mf tw520 (p := 1) (j := 0) rfl
              have c523 := sf_mf tw520 (p := 71) (j := 1) rfl
              have c524 := sf_mf tw520 (p := 1) (j := 5) rfl
              have c525 := sf_mf tw520 (p := 71) (j := 5) rfl
              have c526 := sf_mf tw520 (p := 13) (j := 1) rfl
              have c527 := sf_mf tw520 (p := 71) (j := 10) rfl
              have c528 := sf_mf tw520 (p := 21) (j := 1) rfl
              have c529 := sf_mf tw520 (p := 71) (j := 18) rfl
              have c530 := sf_mf tw520 (p := 35) (j := 0) rfl
              have c531 := sf_mf tw520 (p := 71) (j := 35) rfl
              have c532 := sf_ma tw520 (p := 3) rfl
              have c533 := sf_ma tw520 (p := 72) rfl
              have c534 := sf_mg tw520 (p := 10) rfl
              have c535 := sf_ma tw520 (p := 93) rfl
              have c536 := sf_mL tw520 (p := 130) rfl
              have c537 := sf_ma tw520 (p := 2) rfl
              have c538 := sf_ma tw520 (p := 6) rfl
              have c539 := sf_ma tw520 (p := 75) rfl
              have c540 := sf_ma tw520 (p := 7) rfl
              have c541 := sf_ma tw520 (p := 76) rfl
              have c542 := sf_ma tw520 (p := 8) rfl
              have c543 := sf_ma tw520 (p := 77) rfl
              have c544 := sf_ma tw520 (p := 9) rfl
              have c545 := sf_ma tw520 (p := 78) rfl
              have c546 := sf_ma tw520 (p := 14) rfl
              have c547 := sf_ma tw520 (p := 79) rfl
              have c548 := sf_ma tw520 (p := 15) rfl
              have c549 := sf_ma tw520 (p := 80) rfl
              have c550 := sf_ma tw520 (p := 16) rfl
              have c551 := sf_ma tw520 (p := 81) rfl
              have c552 := sf_ma tw520 (p := 17) rfl
              have c553 := sf_ma tw520 (p := 82) rfl
              have c554 := sf_ma tw520 (p := 18) rfl
              have c555 := sf_ma tw520 (p := 83) rfl
              have c556 := sf_ma tw520 (p := 19) rfl
              have c557 := sf_ma tw520 (p := 84) rfl
              have c558 := sf_ma tw520 (p := 20) rfl
              have c559 := sf_ma tw520 (p := 85) rfl
              have c560 := sf_ma tw520 (p := 24) rfl
              have c561 := sf_ma tw520 (p := 86) rfl
              have c562 := sf_ma tw520 (p := 25) rfl
              have c563 := sf_ma tw520 (p := 87) rfl
              have c564 := sf_ma tw520 (p := 23) rfl
              have c565 := sf_ma tw520 (p := 88) rfl
              have c566 := sf_ma tw520 (p := 26) rfl
              have c567 := sf_ma tw520 (p := 89) rfl
              have c568 := sf_ma tw520 (p := 27) rfl
              have c569 := sf_ma tw520 (p := 90) rfl
              have c570 := sf_ma tw520 (p := 36) rfl
              have c571 := sf_ma tw520 (p := 102) rfl
              have c572 := sf_ma tw520 (p := 37) rfl
              have c573 := sf_ma tw520 (p := 103) rfl
              have c574 := sf_ma tw520 (p := 34) rfl
              have c575 := sf_ma tw520 (p := 30) rfl
              have c576 := sf_ma tw520 (p := 94) rfl
              have c577 := sf_ma tw520 (p := 95) rfl
              have c578 := sf_ma tw520 (p := 4) rfl
              have c579 := sf_ma tw520 (p := 73) rfl
              have c580 := sf_ma tw520 (p := 5) rfl
              have c581 := sf_ma tw520 (p := 74) rfl
              have c582 := sf_ma tw520 (p := 29) rfl
              have c583 := sf_ma tw520 (p := 98) rfl
              have c584 := sf_mg tw520 (p := 31) rfl
              have c585 := sf_mg tw520 (p := 32) rfl
              have c586 := sf_mg tw520 (p := 33) rfl
              have c587 := sf_ma tw520 (p := 96) rfl
              have c588 := sf_ma tw520 (p := 97) rfl
              have G1 := q521_0
              have b40 := (sf_fb I_w (p := 71) (ci := 9) (j := 5) rfl rfl).2
              have hE : 0 ≤ (xs (x4.toInt.toNat + 1)).toInt → (xs (x4.toInt.toNat + 1)).toInt ≤ 15 → sj_B (sp_fi (sf_a w 2) (sf_a w 6) (sf_a w 7) (sf_a w 8) (sf_a w 9) (sp_ag (sf_g w 10) (xs (x4.toInt.toNat + 1)).toInt.toNat) (sf_f w 1 5).toInt.toNat) (sp_d (sf_a w 3)) (sp_sh (sf_a w 2) (sf_a w 6) (sf_a w 7) (sf_a w 8) (sp_ag (sf_g w 10) (xs (x4.toInt.toNat + 1)).toInt.toNat) (sf_f w 1 5).toInt.toNat) (sf_f w 1 0).toInt.toNat = sj_B (sp_fi (sf_a w 72) (sf_a w 75) (sf_a w 76) (sf_a w 77) (sf_a w 78) (sp_aa (sf_a w 93) (xs (x4.toInt.toNat + 1)).toInt.toNat) (sf_f w 71 5).toInt.toNat) (sp_d (sf_a w 3)) (sp_sh (sf_a w 72) (sf_a w 75) (sf_a w 76) (sf_a w 77) (sp_aa (sf_a w 93) (xs (x4.toInt.toNat + 1)).toInt.toNat) (sf_f w 71 5).toInt.toNat) (sf_f w 71 1).toInt.toNat := fun h1 h2 => sp_BE f_1 f_3 f_4 f_5 f_6 f_7 (fun i hi => (sf_arr I_w (p := 77) rfl).2.1 i (by omega)) (fun j hj => congrArg Int32.toInt (f_2 _ j (by omega) hj)) (by omega) (by omega)
              refine sf_istore (L' := [(5, .inl (.int v448)), (0, .inl (.ref 100000)), (1, .inl (.ref 0)), (2, .inl (.ref 71)), (3, .inl (.ref 130)), (4, .inl (.int x4))]) rfl ?_
              show kt_W_law_1428 N xs K _ _ _ _ _
              refine sf_iinc (L' := [(6, .inl (.int v519)), (5, .inl (.int v448)), (0, .inl (.ref 100000)), (1, .inl (.ref 0)), (2, .inl (.ref 71)), (3, .inl (.ref 130))]) (x := x4) sf_c8 rfl rfl (by omega) (fun v589 ev589 => ?_)
              refine sf_can (L' := [(0, .inl (.ref 100000)), (1, .inl (.ref 0)), (2, .inl (.ref 71)), (3, .inl (.ref 130)), (4, .inl (.int v589))]) rfl ?_
              exact ih _ _ _ _ Iw520 (by omega) (by omega) (by omega) (by omega) (by rw [c522, c451]; rw [c523, c452]; rw [c524, c453]; rw [c525, c454]; rw [c526, c455]; rw [c527, c456]; rw [c528, c457]; rw [c529, c458]; rw [c530, c459]; rw [c531, c460]; omega) (by rw [c532, c461]; rw [c533, c462]; rw [c523, c452]; first | exact f_1 | exact hJ) (by rw [c534, c463]; rw [c535, c464]; first | exact f_2 | exact hK2) (by rw [c537, c465]; rw [c533, c462]; rw [c523, c452]; first | exact f_3 | exact hQ2) (by rw [c538, c466]; rw [c539, c467]; rw [c525, c454]; first | exact f_4 | exact hQ6) (by rw [c540, c468]; rw [c541, c469]; rw [c525, c454]; first | exact f_5 | exact hQ7) (by rw [c542, c470]; rw [c543, c471]; rw [c525, c454]; first | exact f_6 | exact hQ8) (by rw [c544, c472]; rw [c545, c473]; rw [c525, c454]; first | exact f_7 | exact hQ9) (by rw [c546, c474]; rw [c547, c475]; rw [c527, c456]; first | exact f_8 | exact hQ14) (by rw [c548, c476]; rw [c549, c477]; rw [c527, c456]; first | exact f_9 | exact hQ15) (by rw [c550, c478]; rw [c551, c479]; rw [c527, c456]; first | exact f_10 | exact hQ16) (by rw [c552, c480]; rw [c553, c481]; rw [c527, c456]; first | exact f_11 | exact hQ17) (by rw [c554, c482]; rw [c555, c483]; rw [c527, c456]; first | exact f_12 | exact hQ18) (by rw [c556, c484]; rw [c557, c485]; rw [c527, c456]; first | exact f_13 | exact hQ19) (by rw [c558, c486]; rw [c559, c487]; rw [c527, c456]; first | exact f_14 | exact hQ20) (by rw [c560, c488]; rw [c561, c489]; rw [c529, c458]; first | exact f_15 | exact hQ24) (by rw [c562, c490]; rw [c563, c491]; rw [c529, c458]; first | exact f_16 | exact hQ25) (by rw [c564, c492]; rw [c565, c493]; rw [c529, c458]; first | exact f_17 | exact hQ23) (by rw [c566, c494]; rw [c567, c495]; rw [c529, c458]; first | exact f_18 | exact hQ26) (by rw [c568, c496]; rw [c569, c497]; rw [c529, c458]; first | exact f_19 | exact hQ27) (by rw [c570, c498]; rw [c571, c499]; rw [c531, c460]; first | exact f_20 | exact hQ36) (by rw [c572, c500]; rw [c573, c501]; rw [c531, c460]; first | exact f_21 | exact hQ37) (by rw [c574, c502]; rw [c575, c503]; rw [c576, c504]; rw [c577, c505]; exact f_22) (by rw [c578, c506]; rw [c579, c507]; rw [c580, c508]; rw [c581, c509]; exact f_23) (by rw [c582, c510]; rw [c583, c511]; exact f_24) (by rw [c584, c512]; rw [c577, c505]; rw [c585, c513]; rw [c587, c515]; rw [c586, c514]; rw [c588, c516]; rw [c576, c504]; exact f_25) (by omega)
            · clear h445
              refine sf_sw1 sf_c4 (fun h590 => ?_) (fun h590 => ?_)
              · refine sf_aload rfl ?_
                refine sf_aload rfl ?_
                refine sf_iload rfl ?_
                refine sf_iconst sf_c1 (fun z591 ez591 => ?_)
                refine sf_iadd (by omega) (fun v592 ev592 => ?_)
                refine sf_sldk (x := x4) (k := 1) (by omega) (by omega) (by omega) ?_
                clear ev592 ez591
                refine sf_aload rfl ?_
                refine sf_iload rfl ?_
                refine sf_iconst sf_c2 (fun z593 ez593 => ?_)
                refine sf_iadd (by omega) (fun v594 ev594 => ?_)
                refine sf_sldk (x := x4) (k := 2) (by omega) (by omega) (by omega) ?_
                clear ev594 ez593
                refine sf_aload rfl ?_
                refine sf_iload rfl ?_
                refine sf_iconst sf_c3 (fun z595 ez595 => ?_)
                refine sf_iadd (by omega) (fun v596 ev596 => ?_)
                refine sf_sldk (x := x4) (k := 3) (by omega) (by omega) (by omega) ?_
                clear ev596 ez595
                refine sf_aload rfl ?_
                refine sf_iload rfl ?_
                refine sf_iconst sf_c4 (fun z597 ez597 => ?_)
                refine sf_iadd (by omega) (fun v598 ev598 => ?_)
                refine sf_sldk (x := x4) (k := 4) (by omega) (by omega) (by omega) ?_
                clear ev598 ez597
                refine sf_aload rfl ?_
                refine sf_iload rfl ?_
                refine sf_iconst sf_c5 (fun z599 ez599 => ?_)
                refine sf_iadd (by omega) (fun v600 ev600 => ?_)
                refine sf_sldk (x := x4) (k := 5) (by omega) (by omega) (by omega) ?_
                clear ev600 ez599
                refine sf_aload rfl ?_
                refine sf_iload rfl ?_
                refine sf_iconst sf_c6 (fun z601 ez601 => ?_)
                refine sf_iadd (by omega) (fun v602 ev602 => ?_)
                refine sf_sldk (x := x4) (k := 6) (by omega) (by omega) (by omega) ?_
                clear ev602 ez601
                refine sf_aload rfl ?_
                refine sf_iload rfl ?_
                refine sf_iconst sf_c7 (fun z603 ez603 => ?_)
                refine sf_iadd (by omega) (fun v604 ev604 => ?_)
                refine sf_sldk (x := x4) (k := 7) (by omega) (by omega) (by omega) ?_
                clear ev604 ez603
                refine sf_aload rfl ?_
                refine sf_callv9 rfl (by omega) (by omega) ?_
                refine sc_W_rate_0_130 I_w  (fun v605 w606 Iw606 tw606 lv605 uv605 q607_0 q607_1 q607_2 q607_3 q607_4 q607_5 q607_6 q607_7 => ?_)
                have c608 := sf_mf tw606 (p := 1) (j := 0) rfl
                have c609 := sf_mf tw606 (p := 71) (j := 1) rfl
                have c610 := sf_mf tw606 (p := 1) (j := 5) rfl
                have c611 := sf_mf tw606 (p := 71) (j := 5) rfl
                have c612 := sf_mf tw606 (p := 71) (j := 10) rfl
                have c613 := sf_mf tw606 (p := 21) (j := 1) rfl
                have c614 := sf_mf tw606 (p := 71) (j := 18) rfl
                have c615 := sf_mf tw606 (p := 35) (j := 0) rfl
                have c616 := sf_mf tw606 (p := 71) (j := 35) rfl
                have c617 := sf_ma tw606 (p := 3) rfl
                have c618 := sf_ma tw606 (p := 72) rfl
                have c619 := sf_mg tw606 (p := 10) rfl
                have c620 := sf_ma tw606 (p := 93) rfl
                have c621 := sf_ma tw606 (p := 2) rfl
                have c622 := sf_ma tw606 (p := 6) rfl
                have c623 := sf_ma tw606 (p := 75) rfl
                have c624 := sf_ma tw606 (p := 7) rfl
                have c625 := sf_ma tw606 (p := 76) rfl
                have c626 := sf_ma tw606 (p := 8) rfl
                have c627 := sf_ma tw606 (p := 77) rfl
                have c628 := sf_ma tw606 (p := 9) rfl
                have c629 := sf_ma tw606 (p := 78) rfl
                have c630 := sf_ma tw606 (p := 79) rfl
                have c631 := sf_ma tw606 (p := 80) rfl
                have c632 := sf_ma tw606 (p := 81) rfl
                have c633 := sf_ma tw606 (p := 82) rfl
                have c634 := sf_ma tw606 (p := 83) rfl
                have c635 := sf_ma tw606 (p := 84) rfl
                have c636 := sf_ma tw606 (p := 85) rfl
                have c637 := sf_ma tw606 (p := 24) rfl
                have c638 := sf_ma tw606 (p := 86) rfl
                have c639 := sf_ma tw606 (p := 25) rfl
                have c640 := sf_ma tw606 (p := 87) rfl
                have c641 := sf_ma tw606 (p := 23) rfl
                have c642 := sf_ma tw606 (p := 88) rfl
                have c643 := sf_ma tw606 (p := 26) rfl
                have c644 := sf_ma tw606 (p := 89) rfl
                have c645 := sf_ma tw606 (p := 27) rfl
                have c646 := sf_ma tw606 (p := 90) rfl
                have c647 := sf_ma tw606 (p := 36) rfl
                have c648 := sf_ma tw606 (p := 102) rfl
                have c649 := sf_ma tw606 (p := 37) rfl
                have c650 := sf_ma tw606 (p := 103) rfl
                have c651 := sf_ma tw606 (p := 34) rfl
                have c652 := sf_ma tw606 (p := 30) rfl
                have c653 := sf_ma tw606 (p := 94) rfl
                have c654 := sf_ma tw606 (p := 95) rfl
                have c655 := sf_ma tw606 (p := 4) rfl
                have c656 := sf_ma tw606 (p := 73) rfl
                have c657 := sf_ma tw606 (p := 5) rfl
                have c658 := sf_ma tw606 (p := 74) rfl
                have c659 := sf_ma tw606 (p := 29) rfl
                have c660 := sf_ma tw606 (p := 98) rfl
                have c661 := sf_mg tw606 (p := 31) rfl
                have c662 := sf_mg tw606 (p := 32) rfl
                have c663 := sf_mg tw606 (p := 33) rfl
                have c664 := sf_ma tw606 (p := 96) rfl
                have c665 := sf_ma tw606 (p := 97) rfl
                have U14 := q607_1
                have U15 := q607_2
                have U16 := q607_3
                have U17 := q607_4
                have U18 := q607_5
                have U19 := q607_6
                have U20 := q607_7
                clear q607_1 q607_2 q607_3 q607_4 q607_5 q607_6 q607_7
                have F1 := q607_0
                refine sf_istore (L' := [(0, .inl (.ref 100000)), (1, .inl (.ref 0)), (2, .inl (.ref 71)), (3, .inl (.ref 130)), (4, .inl (.int x4))]) rfl ?_
                refine sf_aload rfl ?_
                refine sf_aload rfl ?_
                refine sf_iload rfl ?_
                refine sf_iconst sf_c1 (fun z666 ez666 => ?_)
                refine sf_iadd (by omega) (fun v667 ev667 => ?_)
                refine sf_sldk (x := x4) (k := 1) (by omega) (by omega) (by omega) ?_
                clear ev667 ez666
                refine sf_aload rfl ?_
                refine sf_iload rfl ?_
                refine sf_iconst sf_c2 (fun z668 ez668 => ?_)
                refine sf_iadd (by omega) (fun v669 ev669 => ?_)
                refine sf_sldk (x := x4) (k := 2) (by omega) (by omega) (by omega) ?_
                clear ev669 ez668
                refine sf_aload rfl ?_
                refine sf_iload rfl ?_
                refine sf_iconst sf_c3 (fun z670 ez670 => ?_)
                refine sf_iadd (by omega) (fun v671 ev671 => ?_)
                refine sf_sldk (x := x4) (k := 3) (by omega) (by omega) (by omega) ?_
                clear ev671 ez670
                refine sf_aload rfl ?_
                refine sf_iload rfl ?_
                refine sf_iconst sf_c4 (fun z672 ez672 => ?_)
                refine sf_iadd (by omega) (fun v673 ev673 => ?_)
                refine sf_sldk (x := x4) (k := 4) (by omega) (by omega) (by omega) ?_
                clear ev673 ez672
                refine sf_aload rfl ?_
                refine sf_iload rfl ?_
                refine sf_iconst sf_c5 (fun z674 ez674 => ?_)
                refine sf_iadd (by omega) (fun v675 ev675 => ?_)
                refine sf_sldk (x := x4) (k := 5) (by omega) (by omega) (by omega) ?_
                clear ev675 ez674
                refine sf_aload rfl ?_
                refine sf_iload rfl ?_
                refine sf_iconst sf_c6 (fun z676 ez676 => ?_)
                refine sf_iadd (by omega) (fun v677 ev677 => ?_)
                refine sf_sldk (x := x4) (k := 6) (by omega) (by omega) (by omega) ?_
                clear ev677 ez676
                refine sf_aload rfl ?_
                refine sf_iload rfl ?_
                refine sf_iconst sf_c7 (fun z678 ez678 => ?_)
                refine sf_iadd (by omega) (fun v679 ev679 => ?_)
                refine sf_sldk (x := x4) (k := 7) (by omega) (by omega) (by omega) ?_
                clear ev679 ez678
                refine sf_callv8 rfl (by omega) (by omega) ?_
                refine sf_rv Iw606 rfl ?_
                refine sc_M_rate Iw606  (fun v680 w681 Iw681 tw681 lv680 uv680 q682_0 q682_1 q682_2 q682_3 q682_4 q682_5 q682_6 q682_7 => ?_)
                rw [c609] at q682_0
                rw [c612] at q682_0
                rw [c630] at q682_1
                rw [c612] at q682_1
                rw [c631] at q682_2
                rw [c612] at q682_2
                rw [c632] at q682_3
                rw [c612] at q682_3
                rw [c633] at q682_4
                rw [c612] at q682_4
                rw [c634] at q682_5
                rw [c612] at q682_5
                rw [c635] at q682_6
                rw [c612] at q682_6
                rw [c636] at q682_7
                rw [c612] at q682_7
                have c683 := sf_mf tw681 (p := 1) (j := 0) rfl
                have c684 := sf_mf tw681 (p := 71) (j := 1) rfl
                have c685 := sf_mf tw681 (p := 1) (j := 5) rfl
                have c686 := sf_mf tw681 (p := 71) (j := 5) rfl
                have c687 := sf_mf tw681 (p := 13) (j := 1) rfl
                have c688 := sf_mf tw681 (p := 21) (j := 1) rfl
                have c689 := sf_mf tw681 (p := 71) (j := 18) rfl
                have c690 := sf_mf tw681 (p := 35) (j := 0) rfl
                have c691 := sf_mf tw681 (p := 71) (j := 35) rfl
                have c692 := sf_ma tw681 (p := 3) rfl
                have c693 := sf_ma tw681 (p := 72) rfl
                have c694 := sf_mg tw681 (p := 10) rfl
                have c695 := sf_ma tw681 (p := 93) rfl
                have c696 := sf_mL tw681 (p := 130) rfl
                have c697 := sf_ma tw681 (p := 2) rfl
                have c698 := sf_ma tw681 (p := 6) rfl
                have c699 := sf_ma tw681 (p := 75) rfl
                have c700 := sf_ma tw681 (p := 7) rfl
                have c701 := sf_ma tw681 (p := 76) rfl
                have c702 := sf_ma tw681 (p := 8) rfl
                have c703 := sf_ma tw681 (p := 77) rfl
                have c704 := sf_ma tw681 (p := 9) rfl
                have c705 := sf_ma tw681 (p := 78) rfl
                have c706 := sf_ma tw681 (p := 14) rfl
                have c707 := sf_ma tw681 (p := 15) rfl
                have c708 := sf_ma tw681 (p := 16) rfl
                have c709 := sf_ma tw681 (p := 17) rfl
                have c710 := sf_ma tw681 (p := 18) rfl
                have c711 := sf_ma tw681 (p := 19) rfl
                have c712 := sf_ma tw681 (p := 20) rfl
                have c713 := sf_ma tw681 (p := 24) rfl
                have c714 := sf_ma tw681 (p := 86) rfl
                have c715 := sf_ma tw681 (p := 25) rfl
                have c716 := sf_ma tw681 (p := 87) rfl
                have c717 := sf_ma tw681 (p := 23) rfl
                have c718 := sf_ma tw681 (p := 88) rfl
                have c719 := sf_ma tw681 (p := 26) rfl
                have c720 := sf_ma tw681 (p := 89) rfl
                have c721 := sf_ma tw681 (p := 27) rfl
                have c722 := sf_ma tw681 (p := 90) rfl
                have c723 := sf_ma tw681 (p := 36) rfl
                have c724 := sf_ma tw681 (p := 102) rfl
                have c725 := sf_ma tw681 (p := 37) rfl
                have c726 := sf_ma tw681 (p := 103) rfl
                have c727 := sf_ma tw681 (p := 34) rfl
                have c728 := sf_ma tw681 (p := 30) rfl
                have c729 := sf_ma tw681 (p := 94) rfl
                have c730 := sf_ma tw681 (p := 95) rfl
                have c731 := sf_ma tw681 (p := 4) rfl
                have c732 := sf_ma tw681 (p := 73) rfl
                have c733 := sf_ma tw681 (p := 5) rfl
                have c734 := sf_ma tw681 (p := 74) rfl
                have c735 := sf_ma tw681 (p := 29) rfl
                have c736 := sf_ma tw681 (p := 98) rfl
                have c737 := sf_mg tw681 (p := 31) rfl
                have c738 := sf_mg tw681 (p := 32) rfl
                have c739 := sf_mg tw681 (p := 33) rfl
                have c740 := sf_ma tw681 (p := 96) rfl
                have c741 := sf_ma tw681 (p := 97) rfl
                have U79 := q682_1
                have U80 := q682_2
                have U81 := q682_3
                have U82 := q682_4
                have U83 := q682_5
                have U84 := q682_6
                have U85 := q682_7
                clear q682_1 q682_2 q682_3 q682_4 q682_5 q682_6 q682_7
                have G1 := q682_0
                have hrc : v605.toInt = (sf_f w681 71 0).toInt := by omega
                have hcn : (v605.toInt = 0 ∧ (sf_f w681 71 10).toInt = (sf_f w 71 10).toInt + 1) ∨ (v605.toInt ≠ 0 ∧ (sf_f w681 71 10).toInt = (sf_f w 71 10).toInt) := by omega
                have hQ14 := sf_QH f_8 U14 U79 (by omega) hrc hcn
                have hQ15 := sf_QH f_9 U15 U80 (by omega) hrc hcn
                have hQ16 := sf_QH f_10 U16 U81 (by omega) hrc hcn
                have hQ17 := sf_QH f_11 U17 U82 (by omega) hrc hcn
                have hQ18 := sf_QH f_12 U18 U83 (by omega) hrc hcn
                have hQ19 := sf_QH f_13 U19 U84 (by omega) hrc hcn
                have hQ20 := sf_QH f_14 U20 U85 (by omega) hrc hcn
                refine sf_istore (L' := [(5, .inl (.int v605)), (0, .inl (.ref 100000)), (1, .inl (.ref 0)), (2, .inl (.ref 71)), (3, .inl (.ref 130)), (4, .inl (.int x4))]) rfl ?_
                show kt_W_law_1428 N xs K _ _ _ _ _
                refine sf_iinc (L' := [(6, .inl (.int v680)), (5, .inl (.int v605)), (0, .inl (.ref 100000)), (1, .inl (.ref 0)), (2, .inl (.ref 71)), (3, .inl (.ref 130))]) (x := x4) sf_c8 rfl rfl (by omega) (fun v742 ev742 => ?_)
                refine sf_can (L' := [(0, .inl (.ref 100000)), (1, .inl (.ref 0)), (2, .inl (.ref 71)), (3, .inl (.ref 130)), (4, .inl (.int v742))]) rfl ?_
                exact ih _ _ _ _ Iw681 (by omega) (by omega) (by omega) (by omega) (by rw [c683, c608]; rw [c684, c609]; rw [c685, c610]; rw [c686, c611]; rw [c687]; rw [c688, c613]; rw [c689, c614]; rw [c690, c615]; rw [c691, c616]; omega) (by rw [c692, c617]; rw [c693, c618]; rw [c684, c609]; first | exact f_1 | exact hJ) (by rw [c694, c619]; rw [c695, c620]; first | exact f_2 | exact hK2) (by rw [c697, c621]; rw [c693, c618]; rw [c684, c609]; first | exact f_3 | exact hQ2) (by rw [c698, c622]; rw [c699, c623]; rw [c686, c611]; first | exact f_4 | exact hQ6) (by rw [c700, c624]; rw [c701, c625]; rw [c686, c611]; first | exact f_5 | exact hQ7) (by rw [c702, c626]; rw [c703, c627]; rw [c686, c611]; first | exact f_6 | exact hQ8) (by rw [c704, c628]; rw [c705, c629]; rw [c686, c611]; first | exact f_7 | exact hQ9) (by rw [c706]; first | exact f_8 | exact hQ14) (by rw [c707]; first | exact f_9 | exact hQ15) (by rw [c708]; first | exact f_10 | exact hQ16) (by rw [c709]; first | exact f_11 | exact hQ17) (by rw [c710]; first | exact f_12 | exact hQ18) (by rw [c711]; first | exact f_13 | exact hQ19) (by rw [c712]; first | exact f_14 | exact hQ20) (by rw [c713, c637]; rw [c714, c638]; rw [c689, c614]; first | exact f_15 | exact hQ24) (by rw [c715, c639]; rw [c716, c640]; rw [c689, c614]; first | exact f_16 | exact hQ25) (by rw [c717, c641]; rw [c718, c642]; rw [c689, c614]; first | exact f_17 | exact hQ23) (by rw [c719, c643]; rw [c720, c644]; rw [c689, c614]; first | exact f_18 | exact hQ26) (by rw [c721, c645]; rw [c722, c646]; rw [c689, c614]; first | exact f_19 | exact hQ27) (by rw [c723, c647]; rw [c724, c648]; rw [c691, c616]; first | exact f_20 | exact hQ36) (by rw [c725, c649]; rw [c726, c650]; rw [c691, c616]; first | exact f_21 | exact hQ37) (by rw [c727, c651]; rw [c728, c652]; rw [c729, c653]; rw [c730, c654]; exact f_22) (by rw [c731, c655]; rw [c732, c656]; rw [c733, c657]; rw [c734, c658]; exact f_23) (by rw [c735, c659]; rw [c736, c660]; exact f_24) (by rw [c737, c661]; rw [c730, c654]; rw [c738, c662]; rw [c740, c664]; rw [c739, c663]; rw [c741, c665]; rw [c729, c653]; exact f_25) (by omega)
              · clear h590
                refine sf_sw1 sf_c5 (fun h743 => ?_) (fun h743 => ?_)
                · refine sf_aload rfl ?_
                  refine sf_aload rfl ?_
                  refine sf_iload rfl ?_
                  refine sf_iconst sf_c1 (fun z744 ez744 => ?_)
                  refine sf_iadd (by omega) (fun v745 ev745 => ?_)
                  refine sf_sldk (x := x4) (k := 1) (by omega) (by omega) (by omega) ?_
                  clear ev745 ez744
                  refine sf_aload rfl ?_
                  refine sf_iload rfl ?_
                  refine sf_iconst sf_c2 (fun z746 ez746 => ?_)
                  refine sf_iadd (by omega) (fun v747 ev747 => ?_)
                  refine sf_sldk (x := x4) (k := 2) (by omega) (by omega) (by omega) ?_
                  clear ev747 ez746
                  refine sf_aload rfl ?_
                  refine sf_iload rfl ?_
                  refine sf_iconst sf_c3 (fun z748 ez748 => ?_)
                  refine sf_iadd (by omega) (fun v749 ev749 => ?_)
                  refine sf_sldk (x := x4) (k := 3) (by omega) (by omega) (by omega) ?_
                  clear ev749 ez748
                  refine sf_aload rfl ?_
                  refine sf_callv5 rfl (by omega) (by omega) ?_
                  refine sc_W_rateFor_0_130 I_w  (fun v750 w751 Iw751 tw751 lv750 uv750 q752_0 => ?_)
                  have c753 := sf_mf tw751 (p := 1) (j := 0) rfl
                  have c754 := sf_mf tw751 (p := 71) (j := 1) rfl
                  have c755 := sf_mf tw751 (p := 1) (j := 5) rfl
                  have c756 := sf_mf tw751 (p := 71) (j := 5) rfl
                  have c757 := sf_mf tw751 (p := 13) (j := 1) rfl
                  have c758 := sf_mf tw751 (p := 71) (j := 10) rfl
                  have c759 := sf_mf tw751 (p := 21) (j := 1) rfl
                  have c760 := sf_mf tw751 (p := 71) (j := 18) rfl
                  have c761 := sf_mf tw751 (p := 35) (j := 0) rfl
                  have c762 := sf_mf tw751 (p := 71) (j := 35) rfl
                  have c763 := sf_ma tw751 (p := 3) rfl
                  have c764 := sf_ma tw751 (p := 72) rfl
                  have c765 := sf_mg tw751 (p := 10) rfl
                  have c766 := sf_ma tw751 (p := 93) rfl
                  have c767 := sf_ma tw751 (p := 2) rfl
                  have c768 := sf_ma tw751 (p := 6) rfl
                  have c769 := sf_ma tw751 (p := 75) rfl
                  have c770 := sf_ma tw751 (p := 7) rfl
                  have c771 := sf_ma tw751 (p := 76) rfl
                  have c772 := sf_ma tw751 (p := 8) rfl
                  have c773 := sf_ma tw751 (p := 77) rfl
                  have c774 := sf_ma tw751 (p := 9) rfl
                  have c775 := sf_ma tw751 (p := 78) rfl
                  have c776 := sf_ma tw751 (p := 14) rfl
                  have c777 := sf_ma tw751 (p := 79) rfl
                  have c778 := sf_ma tw751 (p := 15) rfl
                  have c779 := sf_ma tw751 (p := 80) rfl
                  have c780 := sf_ma tw751 (p := 16) rfl
                  have c781 := sf_ma tw751 (p := 81) rfl
                  have c782 := sf_ma tw751 (p := 17) rfl
                  have c783 := sf_ma tw751 (p := 82) rfl
                  have c784 := sf_ma tw751 (p := 18) rfl
                  have c785 := sf_ma tw751 (p := 83) rfl
                  have c786 := sf_ma tw751 (p := 19) rfl
                  have c787 := sf_ma tw751 (p := 84) rfl
                  have c788 := sf_ma tw751 (p := 20) rfl
                  have c789 := sf_ma tw751 (p := 85) rfl
                  have c790 := sf_ma tw751 (p := 24) rfl
                  have c791 := sf_ma tw751 (p := 86) rfl
                  have c792 := sf_ma tw751 (p := 25) rfl
                  have c793 := sf_ma tw751 (p := 87) rfl
                  have c794 := sf_ma tw751 (p := 23) rfl
                  have c795 := sf_ma tw751 (p := 88) rfl
                  have c796 := sf_ma tw751 (p := 26) rfl
                  have c797 := sf_ma tw751 (p := 89) rfl
                  have c798 := sf_ma tw751 (p := 27) rfl
                  have c799 := sf_ma tw751 (p := 90) rfl
                  have c800 := sf_ma tw751 (p := 36) rfl
                  have c801 := sf_ma tw751 (p := 102) rfl
                  have c802 := sf_ma tw751 (p := 37) rfl
                  have c803 := sf_ma tw751 (p := 103) rfl
                  have c804 := sf_ma tw751 (p := 34) rfl
                  have c805 := sf_ma tw751 (p := 30) rfl
                  have c806 := sf_ma tw751 (p := 94) rfl
                  have c807 := sf_ma tw751 (p := 95) rfl
                  have c808 := sf_ma tw751 (p := 4) rfl
                  have c809 := sf_ma tw751 (p := 73) rfl
                  have c810 := sf_ma tw751 (p := 5) rfl
                  have c811 := sf_ma tw751 (p := 74) rfl
                  have c812 := sf_ma tw751 (p := 29) rfl
                  have c813 := sf_ma tw751 (p := 98) rfl
                  have c814 := sf_mg tw751 (p := 31) rfl
                  have c815 := sf_mg tw751 (p := 32) rfl
                  have c816 := sf_mg tw751 (p := 33) rfl
                  have c817 := sf_ma tw751 (p := 96) rfl
                  have c818 := sf_ma tw751 (p := 97) rfl
                  have F1 := q752_0
                  refine sf_istore (L' := [(0, .inl (.ref 100000)), (1, .inl (.ref 0)), (2, .inl (.ref 71)), (3, .inl (.ref 130)), (4, .inl (.int x4))]) rfl ?_
                  refine sf_aload rfl ?_
                  refine sf_aload rfl ?_
                  refine sf_iload rfl ?_
                  refine sf_iconst sf_c1 (fun z819 ez819 => ?_)
                  refine sf_iadd (by omega) (fun v820 ev820 => ?_)
                  refine sf_sldk (x := x4) (k := 1) (by omega) (by omega) (by omega) ?_
                  clear ev820 ez819
                  refine sf_aload rfl ?_
                  refine sf_iload rfl ?_
                  refine sf_iconst sf_c2 (fun z821 ez821 => ?_)
                  refine sf_iadd (by omega) (fun v822 ev822 => ?_)
                  refine sf_sldk (x := x4) (k := 2) (by omega) (by omega) (by omega) ?_
                  clear ev822 ez821
                  refine sf_aload rfl ?_
                  refine sf_iload rfl ?_
                  refine sf_iconst sf_c3 (fun z823 ez823 => ?_)
                  refine sf_iadd (by omega) (fun v824 ev824 => ?_)
                  refine sf_sldk (x := x4) (k := 3) (by omega) (by omega) (by omega) ?_
                  clear ev824 ez823
                  refine sf_callv4 rfl (by omega) (by omega) ?_
                  refine sf_rv Iw751 rfl ?_
                  refine sc_M_rateFor Iw751  (fun v825 w826 Iw826 tw826 lv825 uv825 q827_0 => ?_)
                  rw [c764] at q827_0
                  rw [c777] at q827_0
                  rw [c779] at q827_0
                  rw [c787] at q827_0
                  rw [c789] at q827_0
                  rw [c754] at q827_0
                  rw [c758] at q827_0
                  have c828 := sf_mf tw826 (p := 1) (j := 0) rfl
                  have c829 := sf_mf tw826 (p := 71) (j := 1) rfl
                  have c830 := sf_mf tw826 (p := 1) (j := 5) rfl
                  have c831 := sf_mf tw826 (p := 71) (j := 5) rfl
                  have c832 := sf_mf tw826 (p := 13) (j := 1) rfl
                  have c833 := sf_mf tw826 (p := 71) (j := 10) rfl
                  have c834 := sf_mf tw826 (p := 21) (j := 1) rfl
                  have c835 := sf_mf tw826 (p := 71) (j := 18) rfl
                  have c836 := sf_mf tw826 (p := 35) (j := 0) rfl
                  have c837 := sf_mf tw826 (p := 71) (j := 35) rfl
                  have c838 := sf_ma tw826 (p := 3) rfl
                  have c839 := sf_ma tw826 (p := 72) rfl
                  have c840 := sf_mg tw826 (p := 10) rfl
                  have c841 := sf_ma tw826 (p := 93) rfl
                  have c842 := sf_mL tw826 (p := 130) rfl
                  have c843 := sf_ma tw826 (p := 2) rfl
                  have c844 := sf_ma tw826 (p := 6) rfl
                  have c845 := sf_ma tw826 (p := 75) rfl
                  have c846 := sf_ma tw826 (p := 7) rfl
                  have c847 := sf_ma tw826 (p := 76) rfl
                  have c848 := sf_ma tw826 (p := 8) rfl
                  have c849 := sf_ma tw826 (p := 77) rfl
                  have c850 := sf_ma tw826 (p := 9) rfl
                  have c851 := sf_ma tw826 (p := 78) rfl
                  have c852 := sf_ma tw826 (p := 14) rfl
                  have c853 := sf_ma tw826 (p := 79) rfl
                  have c854 := sf_ma tw826 (p := 15) rfl
                  have c855 := sf_ma tw826 (p := 80) rfl
                  have c856 := sf_ma tw826 (p := 16) rfl
                  have c857 := sf_ma tw826 (p := 81) rfl
                  have c858 := sf_ma tw826 (p := 17) rfl
                  have c859 := sf_ma tw826 (p := 82) rfl
                  have c860 := sf_ma tw826 (p := 18) rfl
                  have c861 := sf_ma tw826 (p := 83) rfl
                  have c862 := sf_ma tw826 (p := 19) rfl
                  have c863 := sf_ma tw826 (p := 84) rfl
                  have c864 := sf_ma tw826 (p := 20) rfl
                  have c865 := sf_ma tw826 (p := 85) rfl
                  have c866 := sf_ma tw826 (p := 24) rfl
                  have c867 := sf_ma tw826 (p := 86) rfl
                  have c868 := sf_ma tw826 (p := 25) rfl
                  have c869 := sf_ma tw826 (p := 87) rfl
                  have c870 := sf_ma tw826 (p := 23) rfl
                  have c871 := sf_ma tw826 (p := 88) rfl
                  have c872 := sf_ma tw826 (p := 26) rfl
                  have c873 := sf_ma tw826 (p := 89) rfl
                  have c874 := sf_ma tw826 (p := 27) rfl
                  have c875 := sf_ma tw826 (p := 90) rfl
                  have c876 := sf_ma tw826 (p := 36) rfl
                  have c877 := sf_ma tw826 (p := 102) rfl
                  have c878 := sf_ma tw826 (p := 37) rfl
                  have c879 := sf_ma tw826 (p := 103) rfl
                  have c880 := sf_ma tw826 (p := 34) rfl
                  have c881 := sf_ma tw826 (p := 30) rfl
                  have c882 := sf_ma tw826 (p := 94) rfl
                  have c883 := sf_ma tw826 (p := 95) rfl
                  have c884 := sf_ma tw826 (p := 4) rfl
                  have c885 := sf_ma tw826 (p := 73) rfl
                  have c886 := sf_ma tw826 (p := 5) rfl
                  have c887 := sf_ma tw826 (p := 74) rfl
                  have c888 := sf_ma tw826 (p := 29) rfl
                  have c889 := sf_ma tw826 (p := 98) rfl
                  have c890 := sf_mg tw826 (p := 31) rfl
                  have c891 := sf_mg tw826 (p := 32) rfl
                  have c892 := sf_mg tw826 (p := 33) rfl
                  have c893 := sf_ma tw826 (p := 96) rfl
                  have c894 := sf_ma tw826 (p := 97) rfl
                  have G1 := q827_0
                  have hE : 0 ≤ (xs (x4.toInt.toNat + 1)).toInt → (xs (x4.toInt.toNat + 1)).toInt < (sf_f w 71 1).toInt → sr_up (sf_a w 2) (sr_G (sf_a w 14) (sf_a w 15) (sf_a w 19) (sf_a w 20) (xs (x4.toInt.toNat + 2)).toInt (xs (x4.toInt.toNat + 3)).toInt (sf_f w 13 1).toInt.toNat) 6 (xs (x4.toInt.toNat + 1)).toInt = sr_up (sf_a w 72) (sr_G (sf_a w 79) (sf_a w 80) (sf_a w 84) (sf_a w 85) (xs (x4.toInt.toNat + 2)).toInt (xs (x4.toInt.toNat + 3)).toInt (sf_f w 71 10).toInt.toNat) ((xs (x4.toInt.toNat + 1)).toInt + 1).toNat (xs (x4.toInt.toNat + 1)).toInt := fun h1 h2 => sr_upE f_1 f_3 (fun i _ => sr_gE f_8 f_9 f_13 f_14 _ _ (by omega) i) 6 6 _ _ h2 (fun h3 => by have h4 := (f_1 (xs (x4.toInt.toNat + 1)).toInt.toNat (by omega)).2.2.2.1; omega) (Nat.le_refl _) (by omega)
                  refine sf_istore (L' := [(5, .inl (.int v750)), (0, .inl (.ref 100000)), (1, .inl (.ref 0)), (2, .inl (.ref 71)), (3, .inl (.ref 130)), (4, .inl (.int x4))]) rfl ?_
                  show kt_W_law_1428 N xs K _ _ _ _ _
                  refine sf_iinc (L' := [(6, .inl (.int v825)), (5, .inl (.int v750)), (0, .inl (.ref 100000)), (1, .inl (.ref 0)), (2, .inl (.ref 71)), (3, .inl (.ref 130))]) (x := x4) sf_c8 rfl rfl (by omega) (fun v895 ev895 => ?_)
                  refine sf_can (L' := [(0, .inl (.ref 100000)), (1, .inl (.ref 0)), (2, .inl (.ref 71)), (3, .inl (.ref 130)), (4, .inl (.int v895))]) rfl ?_
                  exact ih _ _ _ _ Iw826 (by omega) (by omega) (by omega) (by omega) (by rw [c828, c753]; rw [c829, c754]; rw [c830, c755]; rw [c831, c756]; rw [c832, c757]; rw [c833, c758]; rw [c834, c759]; rw [c835, c760]; rw [c836, c761]; rw [c837, c762]; omega) (by rw [c838, c763]; rw [c839, c764]; rw [c829, c754]; first | exact f_1 | exact hJ) (by rw [c840, c765]; rw [c841, c766]; first | exact f_2 | exact hK2) (by rw [c843, c767]; rw [c839, c764]; rw [c829, c754]; first | exact f_3 | exact hQ2) (by rw [c844, c768]; rw [c845, c769]; rw [c831, c756]; first | exact f_4 | exact hQ6) (by rw [c846, c770]; rw [c847, c771]; rw [c831, c756]; first | exact f_5 | exact hQ7) (by rw [c848, c772]; rw [c849, c773]; rw [c831, c756]; first | exact f_6 | exact hQ8) (by rw [c850, c774]; rw [c851, c775]; rw [c831, c756]; first | exact f_7 | exact hQ9) (by rw [c852, c776]; rw [c853, c777]; rw [c833, c758]; first | exact f_8 | exact hQ14) (by rw [c854, c778]; rw [c855, c779]; rw [c833, c758]; first | exact f_9 | exact hQ15) (by rw [c856, c780]; rw [c857, c781]; rw [c833, c758]; first | exact f_10 | exact hQ16) (by rw [c858, c782]; rw [c859, c783]; rw [c833, c758]; first | exact f_11 | exact hQ17) (by rw [c860, c784]; rw [c861, c785]; rw [c833, c758]; first | exact f_12 | exact hQ18) (by rw [c862, c786]; rw [c863, c787]; rw [c833, c758]; first | exact f_13 | exact hQ19) (by rw [c864, c788]; rw [c865, c789]; rw [c833, c758]; first | exact f_14 | exact hQ20) (by rw [c866, c790]; rw [c867, c791]; rw [c835, c760]; first | exact f_15 | exact hQ24) (by rw [c868, c792]; rw [c869, c793]; rw [c835, c760]; first | exact f_16 | exact hQ25) (by rw [c870, c794]; rw [c871, c795]; rw [c835, c760]; first | exact f_17 | exact hQ23) (by rw [c872, c796]; rw [c873, c797]; rw [c835, c760]; first | exact f_18 | exact hQ26) (by rw [c874, c798]; rw [c875, c799]; rw [c835, c760]; first | exact f_19 | exact hQ27) (by rw [c876, c800]; rw [c877, c801]; rw [c837, c762]; first | exact f_20 | exact hQ36) (by rw [c878, c802]; rw [c879, c803]; rw [c837, c762]; first | exact f_21 | exact hQ37) (by rw [c880, c804]; rw [c881, c805]; rw [c882, c806]; rw [c883, c807]; exact f_22) (by rw [c884, c808]; rw [c885, c809]; rw [c886, c810]; rw [c887, c811]; exact f_23) (by rw [c888, c812]; rw [c889, c813]; exact f_24) (by rw [c890, c814]; rw [c883, c807]; rw [c891, c815]; rw [c893, c817]; rw [c892, c816]; rw [c894, c818]; rw [c882, c806]; exact f_25) (by omega)
                · clear h743
                  refine sf_sw1 sf_c6 (fun h896 => ?_) (fun h896 => ?_)
                  · refine sf_aload rfl ?_
                    refine sf_aload rfl ?_
                    refine sf_iload rfl ?_
                    refine sf_iconst sf_c1 (fun z897 ez897 => ?_)
                    refine sf_iadd (by omega) (fun v898 ev898 => ?_)
                    refine sf_sldk (x := x4) (k := 1) (by omega) (by omega) (by omega) ?_
                    clear ev898 ez897
                    refine sf_aload rfl ?_
                    refine sf_iload rfl ?_
                    refine sf_iconst sf_c2 (fun z899 ez899 => ?_)
                    refine sf_iadd (by omega) (fun v900 ev900 => ?_)
                    refine sf_sldk (x := x4) (k := 2) (by omega) (by omega) (by omega) ?_
                    clear ev900 ez899
                    refine sf_aload rfl ?_
                    refine sf_iload rfl ?_
                    refine sf_iconst sf_c3 (fun z901 ez901 => ?_)
                    refine sf_iadd (by omega) (fun v902 ev902 => ?_)
                    refine sf_sldk (x := x4) (k := 3) (by omega) (by omega) (by omega) ?_
                    clear ev902 ez901
                    refine sf_aload rfl ?_
                    refine sf_iload rfl ?_
                    refine sf_iconst sf_c4 (fun z903 ez903 => ?_)
                    refine sf_iadd (by omega) (fun v904 ev904 => ?_)
                    refine sf_sldk (x := x4) (k := 4) (by omega) (by omega) (by omega) ?_
                    clear ev904 ez903
                    refine sf_aload rfl ?_
                    refine sf_iload rfl ?_
                    refine sf_iconst sf_c5 (fun z905 ez905 => ?_)
                    refine sf_iadd (by omega) (fun v906 ev906 => ?_)
                    refine sf_sldk (x := x4) (k := 5) (by omega) (by omega) (by omega) ?_
                    clear ev906 ez905
                    refine sf_aload rfl ?_
                    refine sf_iload rfl ?_
                    refine sf_iconst sf_c6 (fun z907 ez907 => ?_)
                    refine sf_iadd (by omega) (fun v908 ev908 => ?_)
                    refine sf_sldk (x := x4) (k := 6) (by omega) (by omega) (by omega) ?_
                    clear ev908 ez907
                    refine sf_aload rfl ?_
                    refine sf_callv8 rfl (by omega) (by omega) ?_
                    refine sc_W_quota_0_130 I_w  (fun v909 w910 Iw910 tw910 lv909 uv909 q911_0 q911_1 q911_2 q911_3 q911_4 q911_5 => ?_)
                    have c912 := sf_mf tw910 (p := 1) (j := 0) rfl
                    have c913 := sf_mf tw910 (p := 71) (j := 1) rfl
                    have c914 := sf_mf tw910 (p := 1) (j := 5) rfl
                    have c915 := sf_mf tw910 (p := 71) (j := 5) rfl
                    have c916 := sf_mf tw910 (p := 13) (j := 1) rfl
                    have c917 := sf_mf tw910 (p := 71) (j := 10) rfl
                    have c918 := sf_mf tw910 (p := 71) (j := 18) rfl
                    have c919 := sf_mf tw910 (p := 35) (j := 0) rfl
                    have c920 := sf_mf tw910 (p := 71) (j := 35) rfl
                    have c921 := sf_ma tw910 (p := 3) rfl
                    have c922 := sf_ma tw910 (p := 72) rfl
                    have c923 := sf_mg tw910 (p := 10) rfl
                    have c924 := sf_ma tw910 (p := 93) rfl
                    have c925 := sf_ma tw910 (p := 2) rfl
                    have c926 := sf_ma tw910 (p := 6) rfl
                    have c927 := sf_ma tw910 (p := 75) rfl
                    have c928 := sf_ma tw910 (p := 7) rfl
                    have c929 := sf_ma tw910 (p := 76) rfl
                    have c930 := sf_ma tw910 (p := 8) rfl
                    have c931 := sf_ma tw910 (p := 77) rfl
                    have c932 := sf_ma tw910 (p := 9) rfl
                    have c933 := sf_ma tw910 (p := 78) rfl
                    have c934 := sf_ma tw910 (p := 14) rfl
                    have c935 := sf_ma tw910 (p := 79) rfl
                    have c936 := sf_ma tw910 (p := 15) rfl
                    have c937 := sf_ma tw910 (p := 80) rfl
                    have c938 := sf_ma tw910 (p := 16) rfl
                    have c939 := sf_ma tw910 (p := 81) rfl
                    have c940 := sf_ma tw910 (p := 17) rfl
                    have c941 := sf_ma tw910 (p := 82) rfl
                    have c942 := sf_ma tw910 (p := 18) rfl
                    have c943 := sf_ma tw910 (p := 83) rfl
                    have c944 := sf_ma tw910 (p := 19) rfl
                    have c945 := sf_ma tw910 (p := 84) rfl
                    have c946 := sf_ma tw910 (p := 20) rfl
                    have c947 := sf_ma tw910 (p := 85) rfl
                    have c948 := sf_ma tw910 (p := 86) rfl
                    have c949 := sf_ma tw910 (p := 87) rfl
                    have c950 := sf_ma tw910 (p := 88) rfl
                    have c951 := sf_ma tw910 (p := 89) rfl
                    have c952 := sf_ma tw910 (p := 90) rfl
                    have c953 := sf_ma tw910 (p := 36) rfl
                    have c954 := sf_ma tw910 (p := 102) rfl
                    have c955 := sf_ma tw910 (p := 37) rfl
                    have c956 := sf_ma tw910 (p := 103) rfl
                    have c957 := sf_ma tw910 (p := 34) rfl
                    have c958 := sf_ma tw910 (p := 30) rfl
                    have c959 := sf_ma tw910 (p := 94) rfl
                    have c960 := sf_ma tw910 (p := 95) rfl
                    have c961 := sf_ma tw910 (p := 4) rfl
                    have c962 := sf_ma tw910 (p := 73) rfl
                    have c963 := sf_ma tw910 (p := 5) rfl
                    have c964 := sf_ma tw910 (p := 74) rfl
                    have c965 := sf_ma tw910 (p := 29) rfl
                    have c966 := sf_ma tw910 (p := 98) rfl
                    have c967 := sf_mg tw910 (p := 31) rfl
                    have c968 := sf_mg tw910 (p := 32) rfl
                    have c969 := sf_mg tw910 (p := 33) rfl
                    have c970 := sf_ma tw910 (p := 96) rfl
                    have c971 := sf_ma tw910 (p := 97) rfl
                    have U24 := q911_1
                    have U25 := q911_2
                    have U23 := q911_3
                    have U26 := q911_4
                    have U27 := q911_5
                    clear q911_1 q911_2 q911_3 q911_4 q911_5
                    have F1 := q911_0
                    refine sf_istore (L' := [(0, .inl (.ref 100000)), (1, .inl (.ref 0)), (2, .inl (.ref 71)), (3, .inl (.ref 130)), (4, .inl (.int x4))]) rfl ?_
                    refine sf_aload rfl ?_
                    refine sf_aload rfl ?_
                    refine sf_iload rfl ?_
                    refine sf_iconst sf_c1 (fun z972 ez972 => ?_)
                    refine sf_iadd (by omega) (fun v973 ev973 => ?_)
                    refine sf_sldk (x := x4) (k := 1) (by omega) (by omega) (by omega) ?_
                    clear ev973 ez972
                    refine sf_aload rfl ?_
                    refine sf_iload rfl ?_
                    refine sf_iconst sf_c2 (fun z974 ez974 => ?_)
                    refine sf_iadd (by omega) (fun v975 ev975 => ?_)
                    refine sf_sldk (x := x4) (k := 2) (by omega) (by omega) (by omega) ?_
                    clear ev975 ez974
                    refine sf_aload rfl ?_
                    refine sf_iload rfl ?_
                    refine sf_iconst sf_c3 (fun z976 ez976 => ?_)
                    refine sf_iadd (by omega) (fun v977 ev977 => ?_)
                    refine sf_sldk (x := x4) (k := 3) (by omega) (by omega) (by omega) ?_
                    clear ev977 ez976
                    refine sf_aload rfl ?_
                    refine sf_iload rfl ?_
                    refine sf_iconst sf_c4 (fun z978 ez978 => ?_)
                    refine sf_iadd (by omega) (fun v979 ev979 => ?_)
                    refine sf_sldk (x := x4) (k := 4) (by omega) (by omega) (by omega) ?_
                    clear ev979 ez978
                    refine sf_aload rfl ?_
                    refine sf_iload rfl ?_
                    refine sf_iconst sf_c5 (fun z980 ez980 => ?_)
                    refine sf_iadd (by omega) (fun v981 ev981 => ?_)
                    refine sf_sldk (x := x4) (k := 5) (by omega) (by omega) (by omega) ?_
                    clear ev981 ez980
                    refine sf_aload rfl ?_
                    refine sf_iload rfl ?_
                    refine sf_iconst sf_c6 (fun z982 ez982 => ?_)
                    refine sf_iadd (by omega) (fun v983 ev983 => ?_)
                    refine sf_sldk (x := x4) (k := 6) (by omega) (by omega) (by omega) ?_
                    clear ev983 ez982
                    refine sf_callv7 rfl (by omega) (by omega) ?_
                    refine sf_rv Iw910 rfl ?_
                    refine sc_M_quota Iw910  (fun v984 w985 Iw985 tw985 lv984 uv984 q986_0 q986_1 q986_2 q986_3 q986_4 q986_5 => ?_)
                    rw [c913] at q986_0
                    rw [c918] at q986_0
                    rw [c948] at q986_1
                    rw [c918] at q986_1
                    rw [c949] at q986_2
                    rw [c918] at q986_2
                    rw [c950] at q986_3
                    rw [c918] at q986_3
                    rw [c951] at q986_4
                    rw [c918] at q986_4
                    rw [c952] at q986_5
                    rw [c918] at q986_5
                    have c987 := sf_mf tw985 (p := 1) (j := 0) rfl
                    have c988 := sf_mf tw985 (p := 71) (j := 1) rfl
                    have c989 := sf_mf tw985 (p := 1) (j := 5) rfl
                    have c990 := sf_mf tw985 (p := 71) (j := 5) rfl
                    have c991 := sf_mf tw985 (p := 13) (j := 1) rfl
                    have c992 := sf_mf tw985 (p := 71) (j := 10) rfl
                    have c993 := sf_mf tw985 (p := 21) (j := 1) rfl
                    have c994 := sf_mf tw985 (p := 35) (j := 0) rfl
                    have c995 := sf_mf tw985 (p := 71) (j := 35) rfl
                    have c996 := sf_ma tw985 (p := 3) rfl
                    have c997 := sf_ma tw985 (p := 72) rfl
                    have c998 := sf_mg tw985 (p := 10) rfl
                    have c999 := sf_ma tw985 (p := 93) rfl
                    have c1000 := sf_mL tw985 (p := 130) rfl
                    have c1001 := sf_ma tw985 (p := 2) rfl
                    have c1002 := sf_ma tw985 (p := 6) rfl
                    have c1003 := sf_ma tw985 (p := 75) rfl
                    have c1004 := sf_ma tw985 (p := 7) rfl
                    have c1005 := sf_ma tw985 (p := 76) rfl
                    have c1006 := sf_ma tw985 (p := 8) rfl
                    have c1007 := sf_ma tw985 (p := 77) rfl
                    have c1008 := sf_ma tw985 (p := 9) rfl
                    have c1009 := sf_ma tw985 (p := 78) rfl
                    have c1010 := sf_ma tw985 (p := 14) rfl
                    have c1011 := sf_ma tw985 (p := 79) rfl
                    have c1012 := sf_ma tw985 (p := 15) rfl
                    have c1013 := sf_ma tw985 (p := 80) rfl
                    have c1014 := sf_ma tw985 (p := 16) rfl
                    have c1015 := sf_ma tw985 (p := 81) rfl
                    have c1016 := sf_ma tw985 (p := 17) rfl
                    have c1017 := sf_ma tw985 (p := 82) rfl
                    have c1018 := sf_ma tw985 (p := 18) rfl
                    have c1019 := sf_ma tw985 (p := 83) rfl
                    have c1020 := sf_ma tw985 (p := 19) rfl
                    have c1021 := sf_ma tw985 (p := 84) rfl
                    have c1022 := sf_ma tw985 (p := 20) rfl
                    have c1023 := sf_ma tw985 (p := 85) rfl
                    have c1024 := sf_ma tw985 (p := 24) rfl
                    have c1025 := sf_ma tw985 (p := 25) rfl
                    have c1026 := sf_ma tw985 (p := 23) rfl
                    have c1027 := sf_ma tw985 (p := 26) rfl
                    have c1028 := sf_ma tw985 (p := 27) rfl
                    have c1029 := sf_ma tw985 (p := 36) rfl
                    have c1030 := sf_ma tw985 (p := 102) rfl
                    have c1031 := sf_ma tw985 (p := 37) rfl
                    have c1032 := sf_ma tw985 (p := 103) rfl
                    have c1033 := sf_ma tw985 (p := 34) rfl
                    have c1034 := sf_ma tw985 (p := 30) rfl
                    have c1035 := sf_ma tw985 (p := 94) rfl
                    have c1036 := sf_ma tw985 (p := 95) rfl
                    have c1037 := sf_ma tw985 (p := 4) rfl
                    have c1038 := sf_ma tw985 (p := 73) rfl
                    have c1039 := sf_ma tw985 (p := 5) rfl
                    have c1040 := sf_ma tw985 (p := 74) rfl
                    have c1041 := sf_ma tw985 (p := 29) rfl
                    have c1042 := sf_ma tw985 (p := 98) rfl
                    have c1043 := sf_mg tw985 (p := 31) rfl
                    have c1044 := sf_mg tw985 (p := 32) rfl
                    have c1045 := sf_mg tw985 (p := 33) rfl
                    have c1046 := sf_ma tw985 (p := 96) rfl
                    have c1047 := sf_ma tw985 (p := 97) rfl
                    have U86 := q986_1
                    have U87 := q986_2
                    have U88 := q986_3
                    have U89 := q986_4
                    have U90 := q986_5
                    clear q986_1 q986_2 q986_3 q986_4 q986_5
                    have G1 := q986_0
                    have hrc : v909.toInt = (sf_f w985 71 0).toInt := by omega
                    have hcn : (v909.toInt = 0 ∧ (sf_f w985 71 18).toInt = (sf_f w 71 18).toInt + 1) ∨ (v909.toInt ≠ 0 ∧ (sf_f w985 71 18).toInt = (sf_f w 71 18).toInt) := by omega
                    have hQ24 := sf_QH f_15 U24 U86 (by omega) hrc hcn
                    have hQ25 := sf_QH f_16 U25 U87 (by omega) hrc hcn
                    have hQ23 := sf_QH f_17 U23 U88 (by omega) hrc hcn
                    have hQ26 := sf_QH f_18 U26 U89 (by omega) hrc hcn
                    have hQ27 := sf_QH f_19 U27 U90 (by omega) hrc hcn
                    refine sf_istore (L' := [(5, .inl (.int v909)), (0, .inl (.ref 100000)), (1, .inl (.ref 0)), (2, .inl (.ref 71)), (3, .inl (.ref 130)), (4, .inl (.int x4))]) rfl ?_
                    show kt_W_law_1428 N xs K _ _ _ _ _
                    refine sf_iinc (L' := [(6, .inl (.int v984)), (5, .inl (.int v909)), (0, .inl (.ref 100000)), (1, .inl (.ref 0)), (2, .inl (.ref 71)), (3, .inl (.ref 130))]) (x := x4) sf_c8 rfl rfl (by omega) (fun v1048 ev1048 => ?_)
                    refine sf_can (L' := [(0, .inl (.ref 100000)), (1, .inl (.ref 0)), (2, .inl (.ref 71)), (3, .inl (.ref 130)), (4, .inl (.int v1048))]) rfl ?_
                    exact ih _ _ _ _ Iw985 (by omega) (by omega) (by omega) (by omega) (by rw [c987, c912]; rw [c988, c913]; rw [c989, c914]; rw [c990, c915]; rw [c991, c916]; rw [c992, c917]; rw [c993]; rw [c994, c919]; rw [c995, c920]; omega) (by rw [c996, c921]; rw [c997, c922]; rw [c988, c913]; first | exact f_1 | exact hJ) (by rw [c998, c923]; rw [c999, c924]; first | exact f_2 | exact hK2) (by rw [c1001, c925]; rw [c997, c922]; rw [c988, c913]; first | exact f_3 | exact hQ2) (by rw [c1002, c926]; rw [c1003, c927]; rw [c990, c915]; first | exact f_4 | exact hQ6) (by rw [c1004, c928]; rw [c1005, c929]; rw [c990, c915]; first | exact f_5 | exact hQ7) (by rw [c1006, c930]; rw [c1007, c931]; rw [c990, c915]; first | exact f_6 | exact hQ8) (by rw [c1008, c932]; rw [c1009, c933]; rw [c990, c915]; first | exact f_7 | exact hQ9) (by rw [c1010, c934]; rw [c1011, c935]; rw [c992, c917]; first | exact f_8 | exact hQ14) (by rw [c1012, c936]; rw [c1013, c937]; rw [c992, c917]; first | exact f_9 | exact hQ15) (by rw [c1014, c938]; rw [c1015, c939]; rw [c992, c917]; first | exact f_10 | exact hQ16) (by rw [c1016, c940]; rw [c1017, c941]; rw [c992, c917]; first | exact f_11 | exact hQ17) (by rw [c1018, c942]; rw [c1019, c943]; rw [c992, c917]; first | exact f_12 | exact hQ18) (by rw [c1020, c944]; rw [c1021, c945]; rw [c992, c917]; first | exact f_13 | exact hQ19) (by rw [c1022, c946]; rw [c1023, c947]; rw [c992, c917]; first | exact f_14 | exact hQ20) (by rw [c1024]; first | exact f_15 | exact hQ24) (by rw [c1025]; first | exact f_16 | exact hQ25) (by rw [c1026]; first | exact f_17 | exact hQ23) (by rw [c1027]; first | exact f_18 | exact hQ26) (by rw [c1028]; first | exact f_19 | exact hQ27) (by rw [c1029, c953]; rw [c1030, c954]; rw [c995, c920]; first | exact f_20 | exact hQ36) (by rw [c1031, c955]; rw [c1032, c956]; rw [c995, c920]; first | exact f_21 | exact hQ37) (by rw [c1033, c957]; rw [c1034, c958]; rw [c1035, c959]; rw [c1036, c960]; exact f_22) (by rw [c1037, c961]; rw [c1038, c962]; rw [c1039, c963]; rw [c1040, c964]; exact f_23) (by rw [c1041, c965]; rw [c1042, c966]; exact f_24) (by rw [c1043, c967]; rw [c1036, c960]; rw [c1044, c968]; rw [c1046, c970]; rw [c1045, c969]; rw [c1047, c971]; rw [c1035, c959]; exact f_25) (by omega)
                  · clear h896
                    refine sf_sw1 sf_c7 (fun h1049 => ?_) (fun h1049 => ?_)
                    · refine sf_aload rfl ?_
                      refine sf_aload rfl ?_
                      refine sf_iload rfl ?_
                      refine sf_iconst sf_c1 (fun z1050 ez1050 => ?_)
                      refine sf_iadd (by omega) (fun v1051 ev1051 => ?_)
                      refine sf_sldk (x := x4) (k := 1) (by omega) (by omega) (by omega) ?_
                      clear ev1051 ez1050
                      refine sf_aload rfl ?_
                      refine sf_callv3 rfl (by omega) (by omega) ?_
                      refine sc_W_quotaLeft_0_130 I_w  (fun v1052 w1053 Iw1053 tw1053 lv1052 uv1052 => ?_)
                      have c1055 := sf_mf tw1053 (p := 1) (j := 0) rfl
                      have c1056 := sf_mf tw1053 (p := 71) (j := 1) rfl
                      have c1057 := sf_mf tw1053 (p := 1) (j := 5) rfl
                      have c1058 := sf_mf tw1053 (p := 71) (j := 5) rfl
                      have c1059 := sf_mf tw1053 (p := 13) (j := 1) rfl
                      have c1060 := sf_mf tw1053 (p := 71) (j := 10) rfl
                      have c1061 := sf_mf tw1053 (p := 21) (j := 1) rfl
                      have c1062 := sf_mf tw1053 (p := 71) (j := 18) rfl
                      have c1063 := sf_mf tw1053 (p := 35) (j := 0) rfl
                      have c1064 := sf_mf tw1053 (p := 71) (j := 35) rfl
                      have c1065 := sf_ma tw1053 (p := 3) rfl
                      have c1066 := sf_ma tw1053 (p := 72) rfl
                      have c1067 := sf_mg tw1053 (p := 10) rfl
                      have c1068 := sf_ma tw1053 (p := 93) rfl
                      have c1069 := sf_ma tw1053 (p := 2) rfl
                      have c1070 := sf_ma tw1053 (p := 6) rfl
                      have c1071 := sf_ma tw1053 (p := 75) rfl
                      have c1072 := sf_ma tw1053 (p := 7) rfl
                      have c1073 := sf_ma tw1053 (p := 76) rfl
                      have c1074 := sf_ma tw1053 (p := 8) rfl
                      have c1075 := sf_ma tw1053 (p := 77) rfl
                      have c1076 := sf_ma tw1053 (p := 9) rfl
                      have c1077 := sf_ma tw1053 (p := 78) rfl
                      have c1078 := sf_ma tw1053 (p := 14) rfl
                      have c1079 := sf_ma tw1053 (p := 79) rfl
                      have c1080 := sf_ma tw1053 (p := 15) rfl
                      have c1081 := sf_ma tw1053 (p := 80) rfl
                      have c1082 := sf_ma tw1053 (p := 16) rfl
                      have c1083 := sf_ma tw1053 (p := 81) rfl
                      have c1084 := sf_ma tw1053 (p := 17) rfl
                      have c1085 := sf_ma tw1053 (p := 82) rfl
                      have c1086 := sf_ma tw1053 (p := 18) rfl
                      have c1087 := sf_ma tw1053 (p := 83) rfl
                      have c1088 := sf_ma tw1053 (p := 19) rfl
                      have c1089 := sf_ma tw1053 (p := 84) rfl
                      have c1090 := sf_ma tw1053 (p := 20) rfl
                      have c1091 := sf_ma tw1053 (p := 85) rfl
                      have c1092 := sf_ma tw1053 (p := 24) rfl
                      have c1093 := sf_ma tw1053 (p := 86) rfl
                      have c1094 := sf_ma tw1053 (p := 25) rfl
                      have c1095 := sf_ma tw1053 (p := 87) rfl
                      have c1096 := sf_ma tw1053 (p := 23) rfl
                      have c1097 := sf_ma tw1053 (p := 88) rfl
                      have c1098 := sf_ma tw1053 (p := 26) rfl
                      have c1099 := sf_ma tw1053 (p := 89) rfl
                      have c1100 := sf_ma tw1053 (p := 27) rfl
                      have c1101 := sf_ma tw1053 (p := 90) rfl
                      have c1102 := sf_ma tw1053 (p := 36) rfl
                      have c1103 := sf_ma tw1053 (p := 102) rfl
                      have c1104 := sf_ma tw1053 (p := 37) rfl
                      have c1105 := sf_ma tw1053 (p := 103) rfl
                      have c1106 := sf_ma tw1053 (p := 34) rfl
                      have c1107 := sf_ma tw1053 (p := 30) rfl
                      have c1108 := sf_ma tw1053 (p := 94) rfl
                      have c1109 := sf_ma tw1053 (p := 95) rfl
                      have c1110 := sf_ma tw1053 (p := 4) rfl
                      have c1111 := sf_ma tw1053 (p := 73) rfl
                      have c1112 := sf_ma tw1053 (p := 5) rfl
                      have c1113 := sf_ma tw1053 (p := 74) rfl
                      have c1114 := sf_ma tw1053 (p := 29) rfl
                      have c1115 := sf_ma tw1053 (p := 98) rfl
                      have c1116 := sf_mg tw1053 (p := 31) rfl
                      have c1117 := sf_mg tw1053 (p := 32) rfl
                      have c1118 := sf_mg tw1053 (p := 33) rfl
                      have c1119 := sf_ma tw1053 (p := 96) rfl
                      have c1120 := sf_ma tw1053 (p := 97) rfl
                      refine sf_istore (L' := [(0, .inl (.ref 100000)), (1, .inl (.ref 0)), (2, .inl (.ref 71)), (3, .inl (.ref 130)), (4, .inl (.int x4))]) rfl ?_
                      refine sf_aload rfl ?_
                      refine sf_aload rfl ?_
                      refine sf_iload rfl ?_
                      refine sf_iconst sf_c1 (fun z1121 ez1121 => ?_)
                      refine sf_iadd (by omega) (fun v1122 ev1122 => ?_)
                      refine sf_sldk (x := x4) (k := 1) (by omega) (by omega) (by omega) ?_
                      clear ev1122 ez1121
                      refine sf_callv2 rfl (by omega) (by omega) ?_
                      refine sf_rv Iw1053 rfl ?_
                      refine sc_M_quotaLeft Iw1053  (fun v1123 w1124 Iw1124 tw1124 => ?_)
                      have c1126 := sf_mf tw1124 (p := 1) (j := 0) rfl
                      have c1127 := sf_mf tw1124 (p := 71) (j := 1) rfl
                      have c1128 := sf_mf tw1124 (p := 1) (j := 5) rfl
                      have c1129 := sf_mf tw1124 (p := 71) (j := 5) rfl
                      have c1130 := sf_mf tw1124 (p := 13) (j := 1) rfl
                      have c1131 := sf_mf tw1124 (p := 71) (j := 10) rfl
                      have c1132 := sf_mf tw1124 (p := 21) (j := 1) rfl
                      have c1133 := sf_mf tw1124 (p := 71) (j := 18) rfl
                      have c1134 := sf_mf tw1124 (p := 35) (j := 0) rfl
                      have c1135 := sf_mf tw1124 (p := 71) (j := 35) rfl
                      have c1136 := sf_ma tw1124 (p := 3) rfl
                      have c1137 := sf_ma tw1124 (p := 72) rfl
                      have c1138 := sf_mg tw1124 (p := 10) rfl
                      have c1139 := sf_ma tw1124 (p := 93) rfl
                      have c1140 := sf_mL tw1124 (p := 130) rfl
                      have c1141 := sf_ma tw1124 (p := 2) rfl
                      have c1142 := sf_ma tw1124 (p := 6) rfl
                      have c1143 := sf_ma tw1124 (p := 75) rfl
                      have c1144 := sf_ma tw1124 (p := 7) rfl
                      have c1145 := sf_ma tw1124 (p := 76) rfl
                      have c1146 := sf_ma tw1124 (p := 8) rfl
                      have c1147 := sf_ma tw1124 (p := 77) rfl
                      have c1148 := sf_ma tw1124 (p := 9) rfl
                      have c1149 := sf_ma tw1124 (p := 78) rfl
                      have c1150 := sf_ma tw1124 (p := 14) rfl
                      have c1151 := sf_ma tw1124 (p := 79) rfl
                      have c1152 := sf_ma tw1124 (p := 15) rfl
                      have c1153 := sf_ma tw1124 (p := 80) rfl
                      have c1154 := sf_ma tw1124 (p := 16) rfl
                      have c1155 := sf_ma tw1124 (p := 81) rfl
                      have c1156 := sf_ma tw1124 (p := 17) rfl
                      have c1157 := sf_ma tw1124 (p := 82) rfl
                      have c1158 := sf_ma tw1124 (p := 18) rfl
                      have c1159 := sf_ma tw1124 (p := 83) rfl
                      have c1160 := sf_ma tw1124 (p := 19) rfl
                      have c1161 := sf_ma tw1124 (p := 84) rfl
                      have c1162 := sf_ma tw1124 (p := 20) rfl
                      have c1163 := sf_ma tw1124 (p := 85) rfl
                      have c1164 := sf_ma tw1124 (p := 24) rfl
                      have c1165 := sf_ma tw1124 (p := 86) rfl
                      have c1166 := sf_ma tw1124 (p := 25) rfl
                      have c1167 := sf_ma tw1124 (p := 87) rfl
                      have c1168 := sf_ma tw1124 (p := 23) rfl
                      have c1169 := sf_ma tw1124 (p := 88) rfl
                      have c1170 := sf_ma tw1124 (p := 26) rfl
                      have c1171 := sf_ma tw1124 (p := 89) rfl
                      have c1172 := sf_ma tw1124 (p := 27) rfl
                      have c1173 := sf_ma tw1124 (p := 90) rfl
                      have c1174 := sf_ma tw1124 (p := 36) rfl
                      have c1175 := sf_ma tw1124 (p := 102) rfl
                      have c1176 := sf_ma tw1124 (p := 37) rfl
                      have c1177 := sf_ma tw1124 (p := 103) rfl
                      have c1178 := sf_ma tw1124 (p := 34) rfl
                      have c1179 := sf_ma tw1124 (p := 30) rfl
                      have c1180 := sf_ma tw1124 (p := 94) rfl
                      have c1181 := sf_ma tw1124 (p := 95) rfl
                      have c1182 := sf_ma tw1124 (p := 4) rfl
                      have c1183 := sf_ma tw1124 (p := 73) rfl
                      have c1184 := sf_ma tw1124 (p := 5) rfl
                      have c1185 := sf_ma tw1124 (p := 74) rfl
                      have c1186 := sf_ma tw1124 (p := 29) rfl
                      have c1187 := sf_ma tw1124 (p := 98) rfl
                      have c1188 := sf_mg tw1124 (p := 31) rfl
                      have c1189 := sf_mg tw1124 (p := 32) rfl
                      have c1190 := sf_mg tw1124 (p := 33) rfl
                      have c1191 := sf_ma tw1124 (p := 96) rfl
                      have c1192 := sf_ma tw1124 (p := 97) rfl
                      refine sf_istore (L' := [(5, .inl (.int v1052)), (0, .inl (.ref 100000)), (1, .inl (.ref 0)), (2, .inl (.ref 71)), (3, .inl (.ref 130)), (4, .inl (.int x4))]) rfl ?_
                      show kt_W_law_1428 N xs K _ _ _ _ _
                      refine sf_iinc (L' := [(6, .inl (.int v1123)), (5, .inl (.int v1052)), (0, .inl (.ref 100000)), (1, .inl (.ref 0)), (2, .inl (.ref 71)), (3, .inl (.ref 130))]) (x := x4) sf_c8 rfl rfl (by omega) (fun v1193 ev1193 => ?_)
                      refine sf_can (L' := [(0, .inl (.ref 100000)), (1, .inl (.ref 0)), (2, .inl (.ref 71)), (3, .inl (.ref 130)), (4, .inl (.int v1193))]) rfl ?_
                      exact ih _ _ _ _ Iw1124 (by omega) (by omega) (by omega) (by omega) (by rw [c1126, c1055]; rw [c1127, c1056]; rw [c1128, c1057]; rw [c1129, c1058]; rw [c1130, c1059]; rw [c1131, c1060]; rw [c1132, c1061]; rw [c1133, c1062]; rw [c1134, c1063]; rw [c1135, c1064]; omega) (by rw [c1136, c1065]; rw [c1137, c1066]; rw [c1127, c1056]; first | exact f_1 | exact hJ) (by rw [c1138, c1067]; rw [c1139, c1068]; first | exact f_2 | exact hK2) (by rw [c1141, c1069]; rw [c1137, c1066]; rw [c1127, c1056]; first | exact f_3 | exact hQ2) (by rw [c1142, c1070]; rw [c1143, c1071]; rw [c1129, c1058]; first | exact f_4 | exact hQ6) (by rw [c1144, c1072]; rw [c1145, c1073]; rw [c1129, c1058]; first | exact f_5 | exact hQ7) (by rw [c1146, c1074]; rw [c1147, c1075]; rw [c1129, c1058]; first | exact f_6 | exact hQ8) (by rw [c1148, c1076]; rw [c1149, c1077]; rw [c1129, c1058]; first | exact f_7 | exact hQ9) (by rw [c1150, c1078]; rw [c1151, c1079]; rw [c1131, c1060]; first | exact f_8 | exact hQ14) (by rw [c1152, c1080]; rw [c1153, c1081]; rw [c1131, c1060]; first | exact f_9 | exact hQ15) (by rw [c1154, c1082]; rw [c1155, c1083]; rw [c1131, c1060]; first | exact f_10 | exact hQ16) (by rw [c1156, c1084]; rw [c1157, c1085]; rw [c1131, c1060]; first | exact f_11 | exact hQ17) (by rw [c1158, c1086]; rw [c1159, c1087]; rw [c1131, c1060]; first | exact f_12 | exact hQ18) (by rw [c1160, c1088]; rw [c1161, c1089]; rw [c1131, c1060]; first | exact f_13 | exact hQ19) (by rw [c1162, c1090]; rw [c1163, c1091]; rw [c1131, c1060]; first | exact f_14 | exact hQ20) (by rw [c1164, c1092]; rw [c1165, c1093]; rw [c1133, c1062]; first | exact f_15 | exact hQ24) (by rw [c1166, c1094]; rw [c1167, c1095]; rw [c1133, c1062]; first | exact f_16 | exact hQ25) (by rw [c1168, c1096]; rw [c1169, c1097]; rw [c1133, c1062]; first | exact f_17 | exact hQ23) (by rw [c1170, c1098]; rw [c1171, c1099]; rw [c1133, c1062]; first | exact f_18 | exact hQ26) (by rw [c1172, c1100]; rw [c1173, c1101]; rw [c1133, c1062]; first | exact f_19 | exact hQ27) (by rw [c1174, c1102]; rw [c1175, c1103]; rw [c1135, c1064]; first | exact f_20 | exact hQ36) (by rw [c1176, c1104]; rw [c1177, c1105]; rw [c1135, c1064]; first | exact f_21 | exact hQ37) (by rw [c1178, c1106]; rw [c1179, c1107]; rw [c1180, c1108]; rw [c1181, c1109]; exact f_22) (by rw [c1182, c1110]; rw [c1183, c1111]; rw [c1184, c1112]; rw [c1185, c1113]; exact f_23) (by rw [c1186, c1114]; rw [c1187, c1115]; exact f_24) (by rw [c1188, c1116]; rw [c1181, c1109]; rw [c1189, c1117]; rw [c1191, c1119]; rw [c1190, c1118]; rw [c1192, c1120]; rw [c1180, c1108]; exact f_25) (by omega)
                    · clear h1049
                      refine sf_sw1 sf_c8 (fun h1194 => ?_) (fun h1194 => ?_)
                      · refine sf_aload rfl ?_
                        refine sf_aload rfl ?_
                        refine sf_iload rfl ?_
                        refine sf_iconst sf_c1 (fun z1195 ez1195 => ?_)
                        refine sf_iadd (by omega) (fun v1196 ev1196 => ?_)
                        refine sf_sldk (x := x4) (k := 1) (by omega) (by omega) (by omega) ?_
                        clear ev1196 ez1195
                        refine sf_aload rfl ?_
                        refine sf_iload rfl ?_
                        refine sf_iconst sf_c2 (fun z1197 ez1197 => ?_)
                        refine sf_iadd (by omega) (fun v1198 ev1198 => ?_)
                        refine sf_sldk (x := x4) (k := 2) (by omega) (by omega) (by omega) ?_
                        clear ev1198 ez1197
                        refine sf_aload rfl ?_
                        refine sf_iload rfl ?_
                        refine sf_iconst sf_c3 (fun z1199 ez1199 => ?_)
                        refine sf_iadd (by omega) (fun v1200 ev1200 => ?_)
                        refine sf_sldk (x := x4) (k := 3) (by omega) (by omega) (by omega) ?_
                        clear ev1200 ez1199
                        refine sf_aload rfl ?_
                        refine sf_iload rfl ?_
                        refine sf_iconst sf_c4 (fun z1201 ez1201 => ?_)
                        refine sf_iadd (by omega) (fun v1202 ev1202 => ?_)
                        refine sf_sldk (x := x4) (k := 4) (by omega) (by omega) (by omega) ?_
                        clear ev1202 ez1201
                        refine sf_aload rfl ?_
                        refine sf_callv6 rfl (by omega) (by omega) ?_
                        refine sc_W_part_0_130 I_w  (fun v1203 w1204 Iw1204 tw1204 lv1203 uv1203 q1205_0 q1205_1 q1205_2 q1205_3 q1205_4 => ?_)
                        have c1206 := sf_mf tw1204 (p := 1) (j := 0) rfl
                        have c1207 := sf_mf tw1204 (p := 71) (j := 1) rfl
                        have c1208 := sf_mf tw1204 (p := 1) (j := 5) rfl
                        have c1209 := sf_mf tw1204 (p := 71) (j := 5) rfl
                        have c1210 := sf_mf tw1204 (p := 13) (j := 1) rfl
                        have c1211 := sf_mf tw1204 (p := 71) (j := 10) rfl
                        have c1212 := sf_mf tw1204 (p := 21) (j := 1) rfl
                        have c1213 := sf_mf tw1204 (p := 71) (j := 18) rfl
                        have c1214 := sf_mf tw1204 (p := 35) (j := 0) rfl
                        have c1215 := sf_mf tw1204 (p := 71) (j := 35) rfl
                        have c1216 := sf_ma tw1204 (p := 3) rfl
                        have c1217 := sf_ma tw1204 (p := 72) rfl
                        have c1218 := sf_mg tw1204 (p := 10) rfl
                        have c1219 := sf_ma tw1204 (p := 93) rfl
                        have c1220 := sf_ma tw1204 (p := 2) rfl
                        have c1221 := sf_ma tw1204 (p := 6) rfl
                        have c1222 := sf_ma tw1204 (p := 75) rfl
                        have c1223 := sf_ma tw1204 (p := 7) rfl
                        have c1224 := sf_ma tw1204 (p := 76) rfl
                        have c1225 := sf_ma tw1204 (p := 8) rfl
                        have c1226 := sf_ma tw1204 (p := 77) rfl
                        have c1227 := sf_ma tw1204 (p := 9) rfl
                        have c1228 := sf_ma tw1204 (p := 78) rfl
                        have c1229 := sf_ma tw1204 (p := 14) rfl
                        have c1230 := sf_ma tw1204 (p := 79) rfl
                        have c1231 := sf_ma tw1204 (p := 15) rfl
                        have c1232 := sf_ma tw1204 (p := 80) rfl
                        have c1233 := sf_ma tw1204 (p := 16) rfl
                        have c1234 := sf_ma tw1204 (p := 81) rfl
                        have c1235 := sf_ma tw1204 (p := 17) rfl
                        have c1236 := sf_ma tw1204 (p := 82) rfl
                        have c1237 := sf_ma tw1204 (p := 18) rfl
                        have c1238 := sf_ma tw1204 (p := 83) rfl
                        have c1239 := sf_ma tw1204 (p := 19) rfl
                        have c1240 := sf_ma tw1204 (p := 84) rfl
                        have c1241 := sf_ma tw1204 (p := 20) rfl
                        have c1242 := sf_ma tw1204 (p := 85) rfl
                        have c1243 := sf_ma tw1204 (p := 24) rfl
                        have c1244 := sf_ma tw1204 (p := 86) rfl
                        have c1245 := sf_ma tw1204 (p := 25) rfl
                        have c1246 := sf_ma tw1204 (p := 87) rfl
                        have c1247 := sf_ma tw1204 (p := 23) rfl
                        have c1248 := sf_ma tw1204 (p := 88) rfl
                        have c1249 := sf_ma tw1204 (p := 26) rfl
                        have c1250 := sf_ma tw1204 (p := 89) rfl
                        have c1251 := sf_ma tw1204 (p := 27) rfl
                        have c1252 := sf_ma tw1204 (p := 90) rfl
                        have c1253 := sf_ma tw1204 (p := 36) rfl
                        have c1254 := sf_ma tw1204 (p := 102) rfl
                        have c1255 := sf_ma tw1204 (p := 37) rfl
                        have c1256 := sf_ma tw1204 (p := 103) rfl
                        have c1257 := sf_ma tw1204 (p := 94) rfl
                        have c1258 := sf_ma tw1204 (p := 95) rfl
                        have c1259 := sf_ma tw1204 (p := 4) rfl
                        have c1260 := sf_ma tw1204 (p := 73) rfl
                        have c1261 := sf_ma tw1204 (p := 5) rfl
                        have c1262 := sf_ma tw1204 (p := 74) rfl
                        have c1263 := sf_ma tw1204 (p := 29) rfl
                        have c1264 := sf_ma tw1204 (p := 98) rfl
                        have c1265 := sf_ma tw1204 (p := 96) rfl
                        have c1266 := sf_ma tw1204 (p := 97) rfl
                        have W0 := q1205_2
                        have W1 := q1205_3
                        have W2 := q1205_4
                        clear q1205_2 q1205_3 q1205_4
                        have F1 := q1205_0
                        have F2 := q1205_1
                        clear q1205_0 q1205_1
                        refine sf_istore (L' := [(0, .inl (.ref 100000)), (1, .inl (.ref 0)), (2, .inl (.ref 71)), (3, .inl (.ref 130)), (4, .inl (.int x4))]) rfl ?_
                        refine sf_aload rfl ?_
                        refine sf_aload rfl ?_
                        refine sf_iload rfl ?_
                        refine sf_iconst sf_c1 (fun z1267 ez1267 => ?_)
                        refine sf_iadd (by omega) (fun v1268 ev1268 => ?_)
                        refine sf_sldk (x := x4) (k := 1) (by omega) (by omega) (by omega) ?_
                        clear ev1268 ez1267
                        refine sf_aload rfl ?_
                        refine sf_iload rfl ?_
                        refine sf_iconst sf_c2 (fun z1269 ez1269 => ?_)
                        refine sf_iadd (by omega) (fun v1270 ev1270 => ?_)
                        refine sf_sldk (x := x4) (k := 2) (by omega) (by omega) (by omega) ?_
                        clear ev1270 ez1269
                        refine sf_aload rfl ?_
                        refine sf_iload rfl ?_
                        refine sf_iconst sf_c3 (fun z1271 ez1271 => ?_)
                        refine sf_iadd (by omega) (fun v1272 ev1272 => ?_)
                        refine sf_sldk (x := x4) (k := 3) (by omega) (by omega) (by omega) ?_
                        clear ev1272 ez1271
                        refine sf_aload rfl ?_
                        refine sf_iload rfl ?_
                        refine sf_iconst sf_c4 (fun z1273 ez1273 => ?_)
                        refine sf_iadd (by omega) (fun v1274 ev1274 => ?_)
                        refine sf_sldk (x := x4) (k := 4) (by omega) (by omega) (by omega) ?_
                        clear ev1274 ez1273
                        refine sf_callv5 rfl (by omega) (by omega) ?_
                        refine sf_rv Iw1204 rfl ?_
                        refine sc_M_part Iw1204  (fun v1275 w1276 Iw1276 tw1276 lv1275 uv1275 q1277_0 q1277_1 q1277_2 q1277_3 q1277_4 => ?_)
                        rw [c1257] at q1277_0
                        rw [c1258] at q1277_0
                        rw [c1257] at q1277_1
                        rw [c1258] at q1277_1
                        rw [c1257] at q1277_2
                        rw [c1258] at q1277_2
                        rw [c1257] at q1277_3
                        rw [c1265] at q1277_3
                        rw [c1257] at q1277_4
                        rw [c1266] at q1277_4
                        have c1278 := sf_mf tw1276 (p := 1) (j := 0) rfl
                        have c1279 := sf_mf tw1276 (p := 71) (j := 1) rfl
                        have c1280 := sf_mf tw1276 (p := 1) (j := 5) rfl
                        have c1281 := sf_mf tw1276 (p := 71) (j := 5) rfl
                        have c1282 := sf_mf tw1276 (p := 13) (j := 1) rfl
                        have c1283 := sf_mf tw1276 (p := 71) (j := 10) rfl
                        have c1284 := sf_mf tw1276 (p := 21) (j := 1) rfl
                        have c1285 := sf_mf tw1276 (p := 71) (j := 18) rfl
                        have c1286 := sf_mf tw1276 (p := 35) (j := 0) rfl
                        have c1287 := sf_mf tw1276 (p := 71) (j := 35) rfl
                        have c1288 := sf_ma tw1276 (p := 3) rfl
                        have c1289 := sf_ma tw1276 (p := 72) rfl
                        have c1290 := sf_mg tw1276 (p := 10) rfl
                        have c1291 := sf_ma tw1276 (p := 93) rfl
                        have c1292 := sf_mL tw1276 (p := 130) rfl
                        have c1293 := sf_ma tw1276 (p := 2) rfl
                        have c1294 := sf_ma tw1276 (p := 6) rfl
                        have c1295 := sf_ma tw1276 (p := 75) rfl
                        have c1296 := sf_ma tw1276 (p := 7) rfl
                        have c1297 := sf_ma tw1276 (p := 76) rfl
                        have c1298 := sf_ma tw1276 (p := 8) rfl
                        have c1299 := sf_ma tw1276 (p := 77) rfl
                        have c1300 := sf_ma tw1276 (p := 9) rfl
                        have c1301 := sf_ma tw1276 (p := 78) rfl
                        have c1302 := sf_ma tw1276 (p := 14) rfl
                        have c1303 := sf_ma tw1276 (p := 79) rfl
                        have c1304 := sf_ma tw1276 (p := 15) rfl
                        have c1305 := sf_ma tw1276 (p := 80) rfl
                        have c1306 := sf_ma tw1276 (p := 16) rfl
                        have c1307 := sf_ma tw1276 (p := 81) rfl
                        have c1308 := sf_ma tw1276 (p := 17) rfl
                        have c1309 := sf_ma tw1276 (p := 82) rfl
                        have c1310 := sf_ma tw1276 (p := 18) rfl
                        have c1311 := sf_ma tw1276 (p := 83) rfl
                        have c1312 := sf_ma tw1276 (p := 19) rfl
                        have c1313 := sf_ma tw1276 (p := 84) rfl
                        have c1314 := sf_ma tw1276 (p := 20) rfl
                        have c1315 := sf_ma tw1276 (p := 85) rfl
                        have c1316 := sf_ma tw1276 (p := 24) rfl
                        have c1317 := sf_ma tw1276 (p := 86) rfl
                        have c1318 := sf_ma tw1276 (p := 25) rfl
                        have c1319 := sf_ma tw1276 (p := 87) rfl
                        have c1320 := sf_ma tw1276 (p := 23) rfl
                        have c1321 := sf_ma tw1276 (p := 88) rfl
                        have c1322 := sf_ma tw1276 (p := 26) rfl
                        have c1323 := sf_ma tw1276 (p := 89) rfl
                        have c1324 := sf_ma tw1276 (p := 27) rfl
                        have c1325 := sf_ma tw1276 (p := 90) rfl
                        have c1326 := sf_ma tw1276 (p := 36) rfl
                        have c1327 := sf_ma tw1276 (p := 102) rfl
                        have c1328 := sf_ma tw1276 (p := 37) rfl
                        have c1329 := sf_ma tw1276 (p := 103) rfl
                        have c1330 := sf_ma tw1276 (p := 34) rfl
                        have c1331 := sf_ma tw1276 (p := 30) rfl
                        have c1332 := sf_ma tw1276 (p := 4) rfl
                        have c1333 := sf_ma tw1276 (p := 73) rfl
                        have c1334 := sf_ma tw1276 (p := 5) rfl
                        have c1335 := sf_ma tw1276 (p := 74) rfl
                        have c1336 := sf_ma tw1276 (p := 29) rfl
                        have c1337 := sf_ma tw1276 (p := 98) rfl
                        have c1338 := sf_mg tw1276 (p := 31) rfl
                        have c1339 := sf_mg tw1276 (p := 32) rfl
                        have c1340 := sf_mg tw1276 (p := 33) rfl
                        have Y0 := q1277_2
                        have Y1 := q1277_3
                        have Y2 := q1277_4
                        clear q1277_2 q1277_3 q1277_4
                        obtain ⟨t9, ht9, G1⟩ := q1277_0
                        have G2 := q1277_1
                        clear q1277_1
                        have hT : (0 ≤ (xs (x4.toInt.toNat + 1)).toInt ∧ (xs (x4.toInt.toNat + 1)).toInt ≤ 15 ∧ 0 ≤ (xs (x4.toInt.toNat + 2)).toInt ∧ (xs (x4.toInt.toNat + 2)).toInt ≤ 15 ∧ 0 ≤ (xs (x4.toInt.toNat + 3)).toInt ∧ (xs (x4.toInt.toNat + 3)).toInt ≤ 1000000 ∧ 0 ≤ (xs (x4.toInt.toNat + 4)).toInt ∧ (xs (x4.toInt.toNat + 4)).toInt ≤ 7) → (t9 = 1 ↔ ((xs (x4.toInt.toNat + 1)).toInt = (xs (x4.toInt.toNat + 2)).toInt ∨ sp_i (sb_t (sf_a w 34 (xs (x4.toInt.toNat + 2)).toInt.toNat) (xs (x4.toInt.toNat + 1)).toInt.toNat) = 1)) := fun h9 => sq_Zt f_22 (by omega) (by omega) (ht9 h9)
                        have hpe : 0 ≤ (xs (x4.toInt.toNat + 1)).toInt → (xs (x4.toInt.toNat + 1)).toInt ≤ 15 → (sf_a w 30 (xs (x4.toInt.toNat + 1)).toInt.toNat).toInt = (sf_a w 94 (xs (x4.toInt.toNat + 1)).toInt.toNat).toInt := fun h1 h2 => by rw [f_22.1 _ (by omega)]
                        have hAC := sm_acS f_25.2.2.2 G2 (fun g hg => (sf_arr I_w (p := 94) rfl).2.1 g hg) (fun k hk => ((sf_arr I_w (p := 95) rfl).2.1 k hk).2) (fun h9 => ⟨by omega, by omega, by omega, fun h7 => by have h6 := (ht9 (by omega)).mpr h7; omega⟩)
                        clear ht9
                        have hrc : v1203.toInt = (sf_f w1276 71 0).toInt := by omega
                        have hZ := sq_ZS f_22 F2 G2 hrc (fun g hg => (sf_arr I_w (p := 94) rfl).2.1 g hg) (fun k hk => ((sf_arr I_w (p := 95) rfl).2.1 k hk).2) (fun h9 => by omega)
                        have hpe9 : (sf_f w1276 71 0).toInt = 0 → (sf_a w 30 (xs (x4.toInt.toNat + 1)).toInt.toNat).toInt.toNat = (sf_a w 94 (xs (x4.toInt.toNat + 1)).toInt.toNat).toInt.toNat ∧ (sf_a w 94 (xs (x4.toInt.toNat + 1)).toInt.toNat).toInt.toNat < 5 := fun h9 => by have h7 := hpe (by omega) (by omega); omega
                        have hRP : sm_g5 (sf_g w1204 31) (sf_a w1276 95) ∧ sm_g5 (sf_g w1204 32) (sf_a w1276 96) ∧ sm_g5 (sf_g w1204 33) (sf_a w1276 97) ∧ sm_ac (sf_a w1276 94) (sf_a w1276 95) := ⟨sm_g5S f_25.1 W0 Y0 hrc hpe9, sm_g5S f_25.2.1 W1 Y1 hrc hpe9, sm_g5S f_25.2.2.1 W2 Y2 hrc hpe9, hAC⟩
                        clear W0 W1 W2 Y0 Y1 Y2 hAC hpe9
                        clear F2 G2
                        refine sf_istore (L' := [(5, .inl (.int v1203)), (0, .inl (.ref 100000)), (1, .inl (.ref 0)), (2, .inl (.ref 71)), (3, .inl (.ref 130)), (4, .inl (.int x4))]) rfl ?_
                        show kt_W_law_1428 N xs K _ _ _ _ _
                        refine sf_iinc (L' := [(6, .inl (.int v1275)), (5, .inl (.int v1203)), (0, .inl (.ref 100000)), (1, .inl (.ref 0)), (2, .inl (.ref 71)), (3, .inl (.ref 130))]) (x := x4) sf_c8 rfl rfl (by omega) (fun v1341 ev1341 => ?_)
                        refine sf_can (L' := [(0, .inl (.ref 100000)), (1, .inl (.ref 0)), (2, .inl (.ref 71)), (3, .inl (.ref 130)), (4, .inl (.int v1341))]) rfl ?_
                        exact ih _ _ _ _ Iw1276 (by omega) (by omega) (by omega) (by omega) (by rw [c1278, c1206]; rw [c1279, c1207]; rw [c1280, c1208]; rw [c1281, c1209]; rw [c1282, c1210]; rw [c1283, c1211]; rw [c1284, c1212]; rw [c1285, c1213]; rw [c1286, c1214]; rw [c1287, c1215]; omega) (by rw [c1288, c1216]; rw [c1289, c1217]; rw [c1279, c1207]; first | exact f_1 | exact hJ) (by rw [c1290, c1218]; rw [c1291, c1219]; first | exact f_2 | exact hK2) (by rw [c1293, c1220]; rw [c1289, c1217]; rw [c1279, c1207]; first | exact f_3 | exact hQ2) (by rw [c1294, c1221]; rw [c1295, c1222]; rw [c1281, c1209]; first | exact f_4 | exact hQ6) (by rw [c1296, c1223]; rw [c1297, c1224]; rw [c1281, c1209]; first | exact f_5 | exact hQ7) (by rw [c1298, c1225]; rw [c1299, c1226]; rw [c1281, c1209]; first | exact f_6 | exact hQ8) (by rw [c1300, c1227]; rw [c1301, c1228]; rw [c1281, c1209]; first | exact f_7 | exact hQ9) (by rw [c1302, c1229]; rw [c1303, c1230]; rw [c1283, c1211]; first | exact f_8 | exact hQ14) (by rw [c1304, c1231]; rw [c1305, c1232]; rw [c1283, c1211]; first | exact f_9 | exact hQ15) (by rw [c1306, c1233]; rw [c1307, c1234]; rw [c1283, c1211]; first | exact f_10 | exact hQ16) (by rw [c1308, c1235]; rw [c1309, c1236]; rw [c1283, c1211]; first | exact f_11 | exact hQ17) (by rw [c1310, c1237]; rw [c1311, c1238]; rw [c1283, c1211]; first | exact f_12 | exact hQ18) (by rw [c1312, c1239]; rw [c1313, c1240]; rw [c1283, c1211]; first | exact f_13 | exact hQ19) (by rw [c1314, c1241]; rw [c1315, c1242]; rw [c1283, c1211]; first | exact f_14 | exact hQ20) (by rw [c1316, c1243]; rw [c1317, c1244]; rw [c1285, c1213]; first | exact f_15 | exact hQ24) (by rw [c1318, c1245]; rw [c1319, c1246]; rw [c1285, c1213]; first | exact f_16 | exact hQ25) (by rw [c1320, c1247]; rw [c1321, c1248]; rw [c1285, c1213]; first | exact f_17 | exact hQ23) (by rw [c1322, c1249]; rw [c1323, c1250]; rw [c1285, c1213]; first | exact f_18 | exact hQ26) (by rw [c1324, c1251]; rw [c1325, c1252]; rw [c1285, c1213]; first | exact f_19 | exact hQ27) (by rw [c1326, c1253]; rw [c1327, c1254]; rw [c1287, c1215]; first | exact f_20 | exact hQ36) (by rw [c1328, c1255]; rw [c1329, c1256]; rw [c1287, c1215]; first | exact f_21 | exact hQ37) (by rw [c1330]; rw [c1331]; exact hZ) (by rw [c1332, c1259]; rw [c1333, c1260]; rw [c1334, c1261]; rw [c1335, c1262]; exact f_23) (by rw [c1336, c1263]; rw [c1337, c1264]; exact f_24) (by rw [c1338]; rw [c1339]; rw [c1340]; exact hRP) (by omega)
                      · clear h1194
                        refine sf_sw1 sf_c9 (fun h1342 => ?_) (fun h1342 => ?_)
                        · refine sf_aload rfl ?_
                          refine sf_aload rfl ?_
                          refine sf_iload rfl ?_
                          refine sf_iconst sf_c1 (fun z1343 ez1343 => ?_)
                          refine sf_iadd (by omega) (fun v1344 ev1344 => ?_)
                          refine sf_sldk (x := x4) (k := 1) (by omega) (by omega) (by omega) ?_
                          clear ev1344 ez1343
                          refine sf_aload rfl ?_
                          refine sf_iload rfl ?_
                          refine sf_iconst sf_c2 (fun z1345 ez1345 => ?_)
                          refine sf_iadd (by omega) (fun v1346 ev1346 => ?_)
                          refine sf_sldk (x := x4) (k := 2) (by omega) (by omega) (by omega) ?_
                          clear ev1346 ez1345
                          refine sf_callv3 rfl (by omega) (by omega) ?_
                          refine sc_W_zone_0 I_w  (fun v1347 w1348 Iw1348 tw1348 lv1347 uv1347 q1349_0 q1349_1 => ?_)
                          have c1350 := sf_mf tw1348 (p := 1) (j := 0) rfl
                          have c1351 := sf_mf tw1348 (p := 71) (j := 1) rfl
                          have c1352 := sf_mf tw1348 (p := 1) (j := 5) rfl
                          have c1353 := sf_mf tw1348 (p := 71) (j := 5) rfl
                          have c1354 := sf_mf tw1348 (p := 13) (j := 1) rfl
                          have c1355 := sf_mf tw1348 (p := 71) (j := 10) rfl
                          have c1356 := sf_mf tw1348 (p := 21) (j := 1) rfl
                          have c1357 := sf_mf tw1348 (p := 71) (j := 18) rfl
                          have c1358 := sf_mf tw1348 (p := 35) (j := 0) rfl
                          have c1359 := sf_mf tw1348 (p := 71) (j := 35) rfl
                          have c1360 := sf_ma tw1348 (p := 3) rfl
                          have c1361 := sf_ma tw1348 (p := 72) rfl
                          have c1362 := sf_mg tw1348 (p := 10) rfl
                          have c1363 := sf_ma tw1348 (p := 93) rfl
                          have c1364 := sf_mL tw1348 (p := 130) rfl
                          have c1365 := sf_ma tw1348 (p := 2) rfl
                          have c1366 := sf_ma tw1348 (p := 6) rfl
                          have c1367 := sf_ma tw1348 (p := 75) rfl
                          have c1368 := sf_ma tw1348 (p := 7) rfl
                          have c1369 := sf_ma tw1348 (p := 76) rfl
                          have c1370 := sf_ma tw1348 (p := 8) rfl
                          have c1371 := sf_ma tw1348 (p := 77) rfl
                          have c1372 := sf_ma tw1348 (p := 9) rfl
                          have c1373 := sf_ma tw1348 (p := 78) rfl
                          have c1374 := sf_ma tw1348 (p := 14) rfl
                          have c1375 := sf_ma tw1348 (p := 79) rfl
                          have c1376 := sf_ma tw1348 (p := 15) rfl
                          have c1377 := sf_ma tw1348 (p := 80) rfl
                          have c1378 := sf_ma tw1348 (p := 16) rfl
                          have c1379 := sf_ma tw1348 (p := 81) rfl
                          have c1380 := sf_ma tw1348 (p := 17) rfl
                          have c1381 := sf_ma tw1348 (p := 82) rfl
                          have c1382 := sf_ma tw1348 (p := 18) rfl
                          have c1383 := sf_ma tw1348 (p := 83) rfl
                          have c1384 := sf_ma tw1348 (p := 19) rfl
                          have c1385 := sf_ma tw1348 (p := 84) rfl
                          have c1386 := sf_ma tw1348 (p := 20) rfl
                          have c1387 := sf_ma tw1348 (p := 85) rfl
                          have c1388 := sf_ma tw1348 (p := 24) rfl
                          have c1389 := sf_ma tw1348 (p := 86) rfl
                          have c1390 := sf_ma tw1348 (p := 25) rfl
                          have c1391 := sf_ma tw1348 (p := 87) rfl
                          have c1392 := sf_ma tw1348 (p := 23) rfl
                          have c1393 := sf_ma tw1348 (p := 88) rfl
                          have c1394 := sf_ma tw1348 (p := 26) rfl
                          have c1395 := sf_ma tw1348 (p := 89) rfl
                          have c1396 := sf_ma tw1348 (p := 27) rfl
                          have c1397 := sf_ma tw1348 (p := 90) rfl
                          have c1398 := sf_ma tw1348 (p := 36) rfl
                          have c1399 := sf_ma tw1348 (p := 102) rfl
                          have c1400 := sf_ma tw1348 (p := 37) rfl
                          have c1401 := sf_ma tw1348 (p := 103) rfl
                          have c1402 := sf_ma tw1348 (p := 34) rfl
                          have c1403 := sf_ma tw1348 (p := 30) rfl
                          have c1404 := sf_ma tw1348 (p := 94) rfl
                          have c1405 := sf_ma tw1348 (p := 95) rfl
                          have c1406 := sf_ma tw1348 (p := 4) rfl
                          have c1407 := sf_ma tw1348 (p := 73) rfl
                          have c1408 := sf_ma tw1348 (p := 5) rfl
                          have c1409 := sf_ma tw1348 (p := 74) rfl
                          have c1410 := sf_ma tw1348 (p := 98) rfl
                          have c1411 := sf_mg tw1348 (p := 31) rfl
                          have c1412 := sf_mg tw1348 (p := 32) rfl
                          have c1413 := sf_mg tw1348 (p := 33) rfl
                          have c1414 := sf_ma tw1348 (p := 96) rfl
                          have c1415 := sf_ma tw1348 (p := 97) rfl
                          have F1 := q1349_0
                          have UA := q1349_1
                          clear q1349_1
                          refine sf_istore (L' := [(0, .inl (.ref 100000)), (1, .inl (.ref 0)), (2, .inl (.ref 71)), (3, .inl (.ref 130)), (4, .inl (.int x4))]) rfl ?_
                          refine sf_aload rfl ?_
                          refine sf_aload rfl ?_
                          refine sf_iload rfl ?_
                          refine sf_iconst sf_c1 (fun z1416 ez1416 => ?_)
                          refine sf_iadd (by omega) (fun v1417 ev1417 => ?_)
                          refine sf_sldk (x := x4) (k := 1) (by omega) (by omega) (by omega) ?_
                          clear ev1417 ez1416
                          refine sf_aload rfl ?_
                          refine sf_iload rfl ?_
                          refine sf_iconst sf_c2 (fun z1418 ez1418 => ?_)
                          refine sf_iadd (by omega) (fun v1419 ev1419 => ?_)
                          refine sf_sldk (x := x4) (k := 2) (by omega) (by omega) (by omega) ?_
                          clear ev1419 ez1418
                          refine sf_callv3 rfl (by omega) (by omega) ?_
                          refine sf_rv Iw1348 rfl ?_
                          refine sc_M_zone Iw1348  (fun w1420 Iw1420 tw1420 q1421_0 q1421_1 => ?_)
                          rw [c1410] at q1421_1
                          have c1422 := sf_mf tw1420 (p := 1) (j := 0) rfl
                          have c1423 := sf_mf tw1420 (p := 71) (j := 1) rfl
                          have c1424 := sf_mf tw1420 (p := 1) (j := 5) rfl
                          have c1425 := sf_mf tw1420 (p := 71) (j := 5) rfl
                          have c1426 := sf_mf tw1420 (p := 13) (j := 1) rfl
                          have c1427 := sf_mf tw1420 (p := 71) (j := 10) rfl
                          have c1428 := sf_mf tw1420 (p := 21) (j := 1) rfl
                          have c1429 := sf_mf tw1420 (p := 71) (j := 18) rfl
                          have c1430 := sf_mf tw1420 (p := 35) (j := 0) rfl
                          have c1431 := sf_mf tw1420 (p := 71) (j := 35) rfl
                          have c1432 := sf_ma tw1420 (p := 3) rfl
                          have c1433 := sf_ma tw1420 (p := 72) rfl
                          have c1434 := sf_mg tw1420 (p := 10) rfl
                          have c1435 := sf_ma tw1420 (p := 93) rfl
                          have c1436 := sf_mL tw1420 (p := 130) rfl
                          have c1437 := sf_ma tw1420 (p := 2) rfl
                          have c1438 := sf_ma tw1420 (p := 6) rfl
                          have c1439 := sf_ma tw1420 (p := 75) rfl
                          have c1440 := sf_ma tw1420 (p := 7) rfl
                          have c1441 := sf_ma tw1420 (p := 76) rfl
                          have c1442 := sf_ma tw1420 (p := 8) rfl
                          have c1443 := sf_ma tw1420 (p := 77) rfl
                          have c1444 := sf_ma tw1420 (p := 9) rfl
                          have c1445 := sf_ma tw1420 (p := 78) rfl
                          have c1446 := sf_ma tw1420 (p := 14) rfl
                          have c1447 := sf_ma tw1420 (p := 79) rfl
                          have c1448 := sf_ma tw1420 (p := 15) rfl
                          have c1449 := sf_ma tw1420 (p := 80) rfl
                          have c1450 := sf_ma tw1420 (p := 16) rfl
                          have c1451 := sf_ma tw1420 (p := 81) rfl
                          have c1452 := sf_ma tw1420 (p := 17) rfl
                          have c1453 := sf_ma tw1420 (p := 82) rfl
                          have c1454 := sf_ma tw1420 (p := 18) rfl
                          have c1455 := sf_ma tw1420 (p := 83) rfl
                          have c1456 := sf_ma tw1420 (p := 19) rfl
                          have c1457 := sf_ma tw1420 (p := 84) rfl
                          have c1458 := sf_ma tw1420 (p := 20) rfl
                          have c1459 := sf_ma tw1420 (p := 85) rfl
                          have c1460 := sf_ma tw1420 (p := 24) rfl
                          have c1461 := sf_ma tw1420 (p := 86) rfl
                          have c1462 := sf_ma tw1420 (p := 25) rfl
                          have c1463 := sf_ma tw1420 (p := 87) rfl
                          have c1464 := sf_ma tw1420 (p := 23) rfl
                          have c1465 := sf_ma tw1420 (p := 88) rfl
                          have c1466 := sf_ma tw1420 (p := 26) rfl
                          have c1467 := sf_ma tw1420 (p := 89) rfl
                          have c1468 := sf_ma tw1420 (p := 27) rfl
                          have c1469 := sf_ma tw1420 (p := 90) rfl
                          have c1470 := sf_ma tw1420 (p := 36) rfl
                          have c1471 := sf_ma tw1420 (p := 102) rfl
                          have c1472 := sf_ma tw1420 (p := 37) rfl
                          have c1473 := sf_ma tw1420 (p := 103) rfl
                          have c1474 := sf_ma tw1420 (p := 34) rfl
                          have c1475 := sf_ma tw1420 (p := 30) rfl
                          have c1476 := sf_ma tw1420 (p := 94) rfl
                          have c1477 := sf_ma tw1420 (p := 95) rfl
                          have c1478 := sf_ma tw1420 (p := 4) rfl
                          have c1479 := sf_ma tw1420 (p := 73) rfl
                          have c1480 := sf_ma tw1420 (p := 5) rfl
                          have c1481 := sf_ma tw1420 (p := 74) rfl
                          have c1482 := sf_ma tw1420 (p := 29) rfl
                          have c1483 := sf_mg tw1420 (p := 31) rfl
                          have c1484 := sf_mg tw1420 (p := 32) rfl
                          have c1485 := sf_mg tw1420 (p := 33) rfl
                          have c1486 := sf_ma tw1420 (p := 96) rfl
                          have c1487 := sf_ma tw1420 (p := 97) rfl
                          have G1 := q1421_0
                          have VA := q1421_1
                          clear q1421_1
                          have hrc : v1347.toInt = (sf_f w1420 71 0).toInt := by omega
                          have hRZ : sf_Q 4 (sf_a w1348 29) (sf_a w1420 98) := sm_QU f_24 UA VA hrc
                          clear UA VA
                          show kt_W_law_1428 N xs K _ _ _ _ _
                          refine sf_iinc (L' := [(5, .inl (.int v1347)), (0, .inl (.ref 100000)), (1, .inl (.ref 0)), (2, .inl (.ref 71)), (3, .inl (.ref 130))]) (x := x4) sf_c8 rfl rfl (by omega) (fun v1488 ev1488 => ?_)
                          refine sf_can (L' := [(0, .inl (.ref 100000)), (1, .inl (.ref 0)), (2, .inl (.ref 71)), (3, .inl (.ref 130)), (4, .inl (.int v1488))]) rfl ?_
                          exact ih _ _ _ _ Iw1420 (by omega) (by omega) (by omega) (by omega) (by rw [c1422, c1350]; rw [c1423, c1351]; rw [c1424, c1352]; rw [c1425, c1353]; rw [c1426, c1354]; rw [c1427, c1355]; rw [c1428, c1356]; rw [c1429, c1357]; rw [c1430, c1358]; rw [c1431, c1359]; omega) (by rw [c1432, c1360]; rw [c1433, c1361]; rw [c1423, c1351]; first | exact f_1 | exact hJ) (by rw [c1434, c1362]; rw [c1435, c1363]; first | exact f_2 | exact hK2) (by rw [c1437, c1365]; rw [c1433, c1361]; rw [c1423, c1351]; first | exact f_3 | exact hQ2) (by rw [c1438, c1366]; rw [c1439, c1367]; rw [c1425, c1353]; first | exact f_4 | exact hQ6) (by rw [c1440, c1368]; rw [c1441, c1369]; rw [c1425, c1353]; first | exact f_5 | exact hQ7) (by rw [c1442, c1370]; rw [c1443, c1371]; rw [c1425, c1353]; first | exact f_6 | exact hQ8) (by rw [c1444, c1372]; rw [c1445, c1373]; rw [c1425, c1353]; first | exact f_7 | exact hQ9) (by rw [c1446, c1374]; rw [c1447, c1375]; rw [c1427, c1355]; first | exact f_8 | exact hQ14) (by rw [c1448, c1376]; rw [c1449, c1377]; rw [c1427, c1355]; first | exact f_9 | exact hQ15) (by rw [c1450, c1378]; rw [c1451, c1379]; rw [c1427, c1355]; first | exact f_10 | exact hQ16) (by rw [c1452, c1380]; rw [c1453, c1381]; rw [c1427, c1355]; first | exact f_11 | exact hQ17) (by rw [c1454, c1382]; rw [c1455, c1383]; rw [c1427, c1355]; first | exact f_12 | exact hQ18) (by rw [c1456, c1384]; rw [c1457, c1385]; rw [c1427, c1355]; first | exact f_13 | exact hQ19) (by rw [c1458, c1386]; rw [c1459, c1387]; rw [c1427, c1355]; first | exact f_14 | exact hQ20) (by rw [c1460, c1388]; rw [c1461, c1389]; rw [c1429, c1357]; first | exact f_15 | exact hQ24) (by rw [c1462, c1390]; rw [c1463, c1391]; rw [c1429, c1357]; first | exact f_16 | exact hQ25) (by rw [c1464, c1392]; rw [c1465, c1393]; rw [c1429, c1357]; first | exact f_17 | exact hQ23) (by rw [c1466, c1394]; rw [c1467, c1395]; rw [c1429, c1357]; first | exact f_18 | exact hQ26) (by rw [c1468, c1396]; rw [c1469, c1397]; rw [c1429, c1357]; first | exact f_19 | exact hQ27) (by rw [c1470, c1398]; rw [c1471, c1399]; rw [c1431, c1359]; first | exact f_20 | exact hQ36) (by rw [c1472, c1400]; rw [c1473, c1401]; rw [c1431, c1359]; first | exact f_21 | exact hQ37) (by rw [c1474, c1402]; rw [c1475, c1403]; rw [c1476, c1404]; rw [c1477, c1405]; exact f_22) (by rw [c1478, c1406]; rw [c1479, c1407]; rw [c1480, c1408]; rw [c1481, c1409]; exact f_23) (by rw [c1482]; exact hRZ) (by rw [c1483, c1411]; rw [c1477, c1405]; rw [c1484, c1412]; rw [c1486, c1414]; rw [c1485, c1413]; rw [c1487, c1415]; rw [c1476, c1404]; exact f_25) (by omega)
                        · clear h1342
                          refine sf_sw1 sf_c10 (fun h1489 => ?_) (fun h1489 => ?_)
                          · refine sf_aload rfl ?_
                            refine sf_aload rfl ?_
                            refine sf_iload rfl ?_
                            refine sf_iconst sf_c1 (fun z1490 ez1490 => ?_)
                            refine sf_iadd (by omega) (fun v1491 ev1491 => ?_)
                            refine sf_sldk (x := x4) (k := 1) (by omega) (by omega) (by omega) ?_
                            clear ev1491 ez1490
                            refine sf_aload rfl ?_
                            refine sf_iload rfl ?_
                            refine sf_iconst sf_c2 (fun z1492 ez1492 => ?_)
                            refine sf_iadd (by omega) (fun v1493 ev1493 => ?_)
                            refine sf_sldk (x := x4) (k := 2) (by omega) (by omega) (by omega) ?_
                            clear ev1493 ez1492
                            refine sf_aload rfl ?_
                            refine sf_iload rfl ?_
                            refine sf_iconst sf_c3 (fun z1494 ez1494 => ?_)
                            refine sf_iadd (by omega) (fun v1495 ev1495 => ?_)
                            refine sf_sldk (x := x4) (k := 3) (by omega) (by omega) (by omega) ?_
                            clear ev1495 ez1494
                            refine sf_callv4 rfl (by omega) (by omega) ?_
                            refine sc_W_rule_0 I_w  (fun v1496 w1497 Iw1497 tw1497 lv1496 uv1496 q1498_0 q1498_1 q1498_2 => ?_)
                            have c1499 := sf_mf tw1497 (p := 1) (j := 0) rfl
                            have c1500 := sf_mf tw1497 (p := 71) (j := 1) rfl
                            have c1501 := sf_mf tw1497 (p := 1) (j := 5) rfl
                            have c1502 := sf_mf tw1497 (p := 71) (j := 5) rfl
                            have c1503 := sf_mf tw1497 (p := 13) (j := 1) rfl
                            have c1504 := sf_mf tw1497 (p := 71) (j := 10) rfl
                            have c1505 := sf_mf tw1497 (p := 21) (j := 1) rfl
                            have c1506 := sf_mf tw1497 (p := 71) (j := 18) rfl
                            have c1507 := sf_mf tw1497 (p := 35) (j := 0) rfl
                            have c1508 := sf_mf tw1497 (p := 71) (j := 35) rfl
                            have c1509 := sf_ma tw1497 (p := 3) rfl
                            have c1510 := sf_ma tw1497 (p := 72) rfl
                            have c1511 := sf_mg tw1497 (p := 10) rfl
                            have c1512 := sf_ma tw1497 (p := 93) rfl
                            have c1513 := sf_mL tw1497 (p := 130) rfl
                            have c1514 := sf_ma tw1497 (p := 2) rfl
                            have c1515 := sf_ma tw1497 (p := 6) rfl
                            have c1516 := sf_ma tw1497 (p := 75) rfl
                            have c1517 := sf_ma tw1497 (p := 7) rfl
                            have c1518 := sf_ma tw1497 (p := 76) rfl
                            have c1519 := sf_ma tw1497 (p := 8) rfl
                            have c1520 := sf_ma tw1497 (p := 77) rfl
                            have c1521 := sf_ma tw1497 (p := 9) rfl
                            have c1522 := sf_ma tw1497 (p := 78) rfl
                            have c1523 := sf_ma tw1497 (p := 14) rfl
                            have c1524 := sf_ma tw1497 (p := 79) rfl
                            have c1525 := sf_ma tw1497 (p := 15) rfl
                            have c1526 := sf_ma tw1497 (p := 80) rfl
                            have c1527 := sf_ma tw1497 (p := 16) rfl
                            have c1528 := sf_ma tw1497 (p := 81) rfl
                            have c1529 := sf_ma tw1497 (p := 17) rfl
                            have c1530 := sf_ma tw1497 (p := 82) rfl
                            have c1531 := sf_ma tw1497 (p := 18) rfl
                            have c1532 := sf_ma tw1497 (p := 83) rfl
                            have c1533 := sf_ma tw1497 (p := 19) rfl
                            have c1534 := sf_ma tw1497 (p := 84) rfl
                            have c1535 := sf_ma tw1497 (p := 20) rfl
                            have c1536 := sf_ma tw1497 (p := 85) rfl
                            have c1537 := sf_ma tw1497 (p := 24) rfl
                            have c1538 := sf_ma tw1497 (p := 86) rfl
                            have c1539 := sf_ma tw1497 (p := 25) rfl
                            have c1540 := sf_ma tw1497 (p := 87) rfl
                            have c1541 := sf_ma tw1497 (p := 23) rfl
                            have c1542 := sf_ma tw1497 (p := 88) rfl
                            have c1543 := sf_ma tw1497 (p := 26) rfl
                            have c1544 := sf_ma tw1497 (p := 89) rfl
                            have c1545 := sf_ma tw1497 (p := 27) rfl
                            have c1546 := sf_ma tw1497 (p := 90) rfl
                            have c1547 := sf_ma tw1497 (p := 36) rfl
                            have c1548 := sf_ma tw1497 (p := 102) rfl
                            have c1549 := sf_ma tw1497 (p := 37) rfl
                            have c1550 := sf_ma tw1497 (p := 103) rfl
                            have c1551 := sf_ma tw1497 (p := 34) rfl
                            have c1552 := sf_ma tw1497 (p := 30) rfl
                            have c1553 := sf_ma tw1497 (p := 94) rfl
                            have c1554 := sf_ma tw1497 (p := 95) rfl
                            have c1555 := sf_ma tw1497 (p := 73) rfl
                            have c1556 := sf_ma tw1497 (p := 74) rfl
                            have c1557 := sf_ma tw1497 (p := 29) rfl
                            have c1558 := sf_ma tw1497 (p := 98) rfl
                            have c1559 := sf_mg tw1497 (p := 31) rfl
                            have c1560 := sf_mg tw1497 (p := 32) rfl
                            have c1561 := sf_mg tw1497 (p := 33) rfl
                            have c1562 := sf_ma tw1497 (p := 96) rfl
                            have c1563 := sf_ma tw1497 (p := 97) rfl
                            have F1 := q1498_0
                            have UA := q1498_1
                            have UB := q1498_2
                            clear q1498_1 q1498_2
                            refine sf_istore (L' := [(0, .inl (.ref 100000)), (1, .inl (.ref 0)), (2, .inl (.ref 71)), (3, .inl (.ref 130)), (4, .inl (.int x4))]) rfl ?_
                            refine sf_aload rfl ?_
                            refine sf_aload rfl ?_
                            refine sf_iload rfl ?_
                            refine sf_iconst sf_c1 (fun z1564 ez1564 => ?_)
                            refine sf_iadd (by omega) (fun v1565 ev1565 => ?_)
                            refine sf_sldk (x := x4) (k := 1) (by omega) (by omega) (by omega) ?_
                            clear ev1565 ez1564
                            refine sf_aload rfl ?_
                            refine sf_iload rfl ?_
                            refine sf_iconst sf_c2 (fun z1566 ez1566 => ?_)
                            refine sf_iadd (by omega) (fun v1567 ev1567 => ?_)
                            refine sf_sldk (x := x4) (k := 2) (by omega) (by omega) (by omega) ?_
                            clear ev1567 ez1566
                            refine sf_aload rfl ?_
                            refine sf_iload rfl ?_
                            refine sf_iconst sf_c3 (fun z1568 ez1568 => ?_)
                            refine sf_iadd (by omega) (fun v1569 ev1569 => ?_)
                            refine sf_sldk (x := x4) (k := 3) (by omega) (by omega) (by omega) ?_
                            clear ev1569 ez1568
                            refine sf_callv4 rfl (by omega) (by omega) ?_
                            refine sf_rv Iw1497 rfl ?_
                            refine sc_M_rule Iw1497  (fun w1570 Iw1570 tw1570 q1571_0 q1571_1 q1571_2 => ?_)
                            rw [c1500] at q1571_0
                            rw [c1555] at q1571_1
                            rw [c1556] at q1571_2
                            have c1572 := sf_mf tw1570 (p := 1) (j := 0) rfl
                            have c1573 := sf_mf tw1570 (p := 71) (j := 1) rfl
                            have c1574 := sf_mf tw1570 (p := 1) (j := 5) rfl
                            have c1575 := sf_mf tw1570 (p := 71) (j := 5) rfl
                            have c1576 := sf_mf tw1570 (p := 13) (j := 1) rfl
                            have c1577 := sf_mf tw1570 (p := 71) (j := 10) rfl
                            have c1578 := sf_mf tw1570 (p := 21) (j := 1) rfl
                            have c1579 := sf_mf tw1570 (p := 71) (j := 18) rfl
                            have c1580 := sf_mf tw1570 (p := 35) (j := 0) rfl
                            have c1581 := sf_mf tw1570 (p := 71) (j := 35) rfl
                            have c1582 := sf_ma tw1570 (p := 3) rfl
                            have c1583 := sf_ma tw1570 (p := 72) rfl
                            have c1584 := sf_mg tw1570 (p := 10) rfl
                            have c1585 := sf_ma tw1570 (p := 93) rfl
                            have c1586 := sf_mL tw1570 (p := 130) rfl
                            have c1587 := sf_ma tw1570 (p := 2) rfl
                            have c1588 := sf_ma tw1570 (p := 6) rfl
                            have c1589 := sf_ma tw1570 (p := 75) rfl
                            have c1590 := sf_ma tw1570 (p := 7) rfl
                            have c1591 := sf_ma tw1570 (p := 76) rfl
                            have c1592 := sf_ma tw1570 (p := 8) rfl
                            have c1593 := sf_ma tw1570 (p := 77) rfl
                            have c1594 := sf_ma tw1570 (p := 9) rfl
                            have c1595 := sf_ma tw1570 (p := 78) rfl
                            have c1596 := sf_ma tw1570 (p := 14) rfl
                            have c1597 := sf_ma tw1570 (p := 79) rfl
                            have c1598 := sf_ma tw1570 (p := 15) rfl
                            have c1599 := sf_ma tw1570 (p := 80) rfl
                            have c1600 := sf_ma tw1570 (p := 16) rfl
                            have c1601 := sf_ma tw1570 (p := 81) rfl
                            have c1602 := sf_ma tw1570 (p := 17) rfl
                            have c1603 := sf_ma tw1570 (p := 82) rfl
                            have c1604 := sf_ma tw1570 (p := 18) rfl
                            have c1605 := sf_ma tw1570 (p := 83) rfl
                            have c1606 := sf_ma tw1570 (p := 19) rfl
                            have c1607 := sf_ma tw1570 (p := 84) rfl
                            have c1608 := sf_ma tw1570 (p := 20) rfl
                            have c1609 := sf_ma tw1570 (p := 85) rfl
                            have c1610 := sf_ma tw1570 (p := 24) rfl
                            have c1611 := sf_ma tw1570 (p := 86) rfl
                            have c1612 := sf_ma tw1570 (p := 25) rfl
                            have c1613 := sf_ma tw1570 (p := 87) rfl
                            have c1614 := sf_ma tw1570 (p := 23) rfl
                            have c1615 := sf_ma tw1570 (p := 88) rfl
                            have c1616 := sf_ma tw1570 (p := 26) rfl
                            have c1617 := sf_ma tw1570 (p := 89) rfl
                            have c1618 := sf_ma tw1570 (p := 27) rfl
                            have c1619 := sf_ma tw1570 (p := 90) rfl
                            have c1620 := sf_ma tw1570 (p := 36) rfl
                            have c1621 := sf_ma tw1570 (p := 102) rfl
                            have c1622 := sf_ma tw1570 (p := 37) rfl
                            have c1623 := sf_ma tw1570 (p := 103) rfl
                            have c1624 := sf_ma tw1570 (p := 34) rfl
                            have c1625 := sf_ma tw1570 (p := 30) rfl
                            have c1626 := sf_ma tw1570 (p := 94) rfl
                            have c1627 := sf_ma tw1570 (p := 95) rfl
                            have c1628 := sf_ma tw1570 (p := 4) rfl
                            have c1629 := sf_ma tw1570 (p := 5) rfl
                            have c1630 := sf_ma tw1570 (p := 29) rfl
                            have c1631 := sf_ma tw1570 (p := 98) rfl
                            have c1632 := sf_mg tw1570 (p := 31) rfl
                            have c1633 := sf_mg tw1570 (p := 32) rfl
                            have c1634 := sf_mg tw1570 (p := 33) rfl
                            have c1635 := sf_ma tw1570 (p := 96) rfl
                            have c1636 := sf_ma tw1570 (p := 97) rfl
                            have G1 := q1571_0
                            have VA := q1571_1
                            have VB := q1571_2
                            clear q1571_1 q1571_2
                            have hrc : v1496.toInt = (sf_f w1570 71 0).toInt := by omega
                            have hRK : sf_Q 24 (sf_a w1497 4) (sf_a w1570 73) ∧ sf_Q 24 (sf_a w1497 5) (sf_a w1570 74) := ⟨sm_QU f_23.1 UA VA hrc, sm_QU f_23.2 UB VB hrc⟩
                            clear UA UB VA VB
                            show kt_W_law_1428 N xs K _ _ _ _ _
                            refine sf_iinc (L' := [(5, .inl (.int v1496)), (0, .inl (.ref 100000)), (1, .inl (.ref 0)), (2, .inl (.ref 71)), (3, .inl (.ref 130))]) (x := x4) sf_c8 rfl rfl (by omega) (fun v1637 ev1637 => ?_)
                            refine sf_can (L' := [(0, .inl (.ref 100000)), (1, .inl (.ref 0)), (2, .inl (.ref 71)), (3, .inl (.ref 130)), (4, .inl (.int v1637))]) rfl ?_
                            exact ih _ _ _ _ Iw1570 (by omega) (by omega) (by omega) (by omega) (by rw [c1572, c1499]; rw [c1573, c1500]; rw [c1574, c1501]; rw [c1575, c1502]; rw [c1576, c1503]; rw [c1577, c1504]; rw [c1578, c1505]; rw [c1579, c1506]; rw [c1580, c1507]; rw [c1581, c1508]; omega) (by rw [c1582, c1509]; rw [c1583, c1510]; rw [c1573, c1500]; first | exact f_1 | exact hJ) (by rw [c1584, c1511]; rw [c1585, c1512]; first | exact f_2 | exact hK2) (by rw [c1587, c1514]; rw [c1583, c1510]; rw [c1573, c1500]; first | exact f_3 | exact hQ2) (by rw [c1588, c1515]; rw [c1589, c1516]; rw [c1575, c1502]; first | exact f_4 | exact hQ6) (by rw [c1590, c1517]; rw [c1591, c1518]; rw [c1575, c1502]; first | exact f_5 | exact hQ7) (by rw [c1592, c1519]; rw [c1593, c1520]; rw [c1575, c1502]; first | exact f_6 | exact hQ8) (by rw [c1594, c1521]; rw [c1595, c1522]; rw [c1575, c1502]; first | exact f_7 | exact hQ9) (by rw [c1596, c1523]; rw [c1597, c1524]; rw [c1577, c1504]; first | exact f_8 | exact hQ14) (by rw [c1598, c1525]; rw [c1599, c1526]; rw [c1577, c1504]; first | exact f_9 | exact hQ15) (by rw [c1600, c1527]; rw [c1601, c1528]; rw [c1577, c1504]; first | exact f_10 | exact hQ16) (by rw [c1602, c1529]; rw [c1603, c1530]; rw [c1577, c1504]; first | exact f_11 | exact hQ17) (by rw [c1604, c1531]; rw [c1605, c1532]; rw [c1577, c1504]; first | exact f_12 | exact hQ18) (by rw [c1606, c1533]; rw [c1607, c1534]; rw [c1577, c1504]; first | exact f_13 | exact hQ19) (by rw [c1608, c1535]; rw [c1609, c1536]; rw [c1577, c1504]; first | exact f_14 | exact hQ20) (by rw [c1610, c1537]; rw [c1611, c1538]; rw [c1579, c1506]; first | exact f_15 | exact hQ24) (by rw [c1612, c1539]; rw [c1613, c1540]; rw [c1579, c1506]; first | exact f_16 | exact hQ25) (by rw [c1614, c1541]; rw [c1615, c1542]; rw [c1579, c1506]; first | exact f_17 | exact hQ23) (by rw [c1616, c1543]; rw [c1617, c1544]; rw [c1579, c1506]; first | exact f_18 | exact hQ26) (by rw [c1618, c1545]; rw [c1619, c1546]; rw [c1579, c1506]; first | exact f_19 | exact hQ27) (by rw [c1620, c1547]; rw [c1621, c1548]; rw [c1581, c1508]; first | exact f_20 | exact hQ36) (by rw [c1622, c1549]; rw [c1623, c1550]; rw [c1581, c1508]; first | exact f_21 | exact hQ37) (by rw [c1624, c1551]; rw [c1625, c1552]; rw [c1626, c1553]; rw [c1627, c1554]; exact f_22) (by rw [c1628]; rw [c1629]; exact hRK) (by rw [c1630, c1557]; rw [c1631, c1558]; exact f_24) (by rw [c1632, c1559]; rw [c1627, c1554]; rw [c1633, c1560]; rw [c1635, c1562]; rw [c1634, c1561]; rw [c1636, c1563]; rw [c1626, c1553]; exact f_25) (by omega)
                          · clear h1489
                            refine sf_sw1 sf_c11 (fun h1638 => ?_) (fun h1638 => ?_)
                            · refine sf_aload rfl ?_
                              refine sf_aload rfl ?_
                              refine sf_iload rfl ?_
                              refine sf_iconst sf_c1 (fun z1639 ez1639 => ?_)
                              refine sf_iadd (by omega) (fun v1640 ev1640 => ?_)
                              refine sf_sldk (x := x4) (k := 1) (by omega) (by omega) (by omega) ?_
                              clear ev1640 ez1639
                              refine sf_aload rfl ?_
                              refine sf_iload rfl ?_
                              refine sf_iconst sf_c2 (fun z1641 ez1641 => ?_)
                              refine sf_iadd (by omega) (fun v1642 ev1642 => ?_)
                              refine sf_sldk (x := x4) (k := 2) (by omega) (by omega) (by omega) ?_
                              clear ev1642 ez1641
                              refine sf_aload rfl ?_
                              refine sf_callv4 rfl (by omega) (by omega) ?_
                              refine sc_W_madeIn_0_130 I_w (by exact sf_JQ f_1 f_3 (by omega)) (by exact sm_ciZ f_22 f_25.2.2.2 f_25.1 (fun g hg => ((sf_arr I_w (p := 94) rfl).2.1 g hg).2) (fun k hk => (sf_arr I_w (p := 95) rfl).2.1 k hk)) (fun v1643 w1644 Iw1644 tw1644 lv1643 uv1643 q1645_0 => ?_)
                              have c1646 := sf_mf tw1644 (p := 1) (j := 0) rfl
                              have c1647 := sf_mf tw1644 (p := 71) (j := 1) rfl
                              have c1648 := sf_mf tw1644 (p := 1) (j := 5) rfl
                              have c1649 := sf_mf tw1644 (p := 71) (j := 5) rfl
                              have c1650 := sf_mf tw1644 (p := 13) (j := 1) rfl
                              have c1651 := sf_mf tw1644 (p := 71) (j := 10) rfl
                              have c1652 := sf_mf tw1644 (p := 21) (j := 1) rfl
                              have c1653 := sf_mf tw1644 (p := 71) (j := 18) rfl
                              have c1654 := sf_mf tw1644 (p := 35) (j := 0) rfl
                              have c1655 := sf_mf tw1644 (p := 71) (j := 35) rfl
                              have c1656 := sf_ma tw1644 (p := 3) rfl
                              have c1657 := sf_ma tw1644 (p := 72) rfl
                              have c1658 := sf_mg tw1644 (p := 10) rfl
                              have c1659 := sf_ma tw1644 (p := 93) rfl
                              have c1660 := sf_ma tw1644 (p := 2) rfl
                              have c1661 := sf_ma tw1644 (p := 6) rfl
                              have c1662 := sf_ma tw1644 (p := 75) rfl
                              have c1663 := sf_ma tw1644 (p := 7) rfl
                              have c1664 := sf_ma tw1644 (p := 76) rfl
                              have c1665 := sf_ma tw1644 (p := 8) rfl
                              have c1666 := sf_ma tw1644 (p := 77) rfl
                              have c1667 := sf_ma tw1644 (p := 9) rfl
                              have c1668 := sf_ma tw1644 (p := 78) rfl
                              have c1669 := sf_ma tw1644 (p := 14) rfl
                              have c1670 := sf_ma tw1644 (p := 79) rfl
                              have c1671 := sf_ma tw1644 (p := 15) rfl
                              have c1672 := sf_ma tw1644 (p := 80) rfl
                              have c1673 := sf_ma tw1644 (p := 16) rfl
                              have c1674 := sf_ma tw1644 (p := 81) rfl
                              have c1675 := sf_ma tw1644 (p := 17) rfl
                              have c1676 := sf_ma tw1644 (p := 82) rfl
                              have c1677 := sf_ma tw1644 (p := 18) rfl
                              have c1678 := sf_ma tw1644 (p := 83) rfl
                              have c1679 := sf_ma tw1644 (p := 19) rfl
                              have c1680 := sf_ma tw1644 (p := 84) rfl
                              have c1681 := sf_ma tw1644 (p := 20) rfl
                              have c1682 := sf_ma tw1644 (p := 85) rfl
                              have c1683 := sf_ma tw1644 (p := 24) rfl
                              have c1684 := sf_ma tw1644 (p := 86) rfl
                              have c1685 := sf_ma tw1644 (p := 25) rfl
                              have c1686 := sf_ma tw1644 (p := 87) rfl
                              have c1687 := sf_ma tw1644 (p := 23) rfl
                              have c1688 := sf_ma tw1644 (p := 88) rfl
                              have c1689 := sf_ma tw1644 (p := 26) rfl
                              have c1690 := sf_ma tw1644 (p := 89) rfl
                              have c1691 := sf_ma tw1644 (p := 27) rfl
                              have c1692 := sf_ma tw1644 (p := 90) rfl
                              have c1693 := sf_ma tw1644 (p := 36) rfl
                              have c1694 := sf_ma tw1644 (p := 102) rfl
                              have c1695 := sf_ma tw1644 (p := 37) rfl
                              have c1696 := sf_ma tw1644 (p := 103) rfl
                              have c1697 := sf_ma tw1644 (p := 34) rfl
                              have c1698 := sf_ma tw1644 (p := 30) rfl
                              have c1699 := sf_ma tw1644 (p := 94) rfl
                              have c1700 := sf_ma tw1644 (p := 95) rfl
                              have c1701 := sf_ma tw1644 (p := 4) rfl
                              have c1702 := sf_ma tw1644 (p := 73) rfl
                              have c1703 := sf_ma tw1644 (p := 5) rfl
                              have c1704 := sf_ma tw1644 (p := 74) rfl
                              have c1705 := sf_ma tw1644 (p := 29) rfl
                              have c1706 := sf_ma tw1644 (p := 98) rfl
                              have c1707 := sf_mg tw1644 (p := 31) rfl
                              have c1708 := sf_mg tw1644 (p := 32) rfl
                              have c1709 := sf_mg tw1644 (p := 33) rfl
                              have c1710 := sf_ma tw1644 (p := 96) rfl
                              have c1711 := sf_ma tw1644 (p := 97) rfl
                              have F1 := q1645_0
                              clear q1645_0
                              have hRKx := sm_rkZ (sm_ciZ f_22 f_25.2.2.2 f_25.1 (fun g hg => ((sf_arr I_w (p := 94) rfl).2.1 g hg).2) (fun k hk => (sf_arr I_w (p := 95) rfl).2.1 k hk)) f_22 f_25.1 (fun g hg => ((sf_arr I_w (p := 94) rfl).2.1 g hg).2)
                              refine sf_istore (L' := [(0, .inl (.ref 100000)), (1, .inl (.ref 0)), (2, .inl (.ref 71)), (3, .inl (.ref 130)), (4, .inl (.int x4))]) rfl ?_
                              refine sf_aload rfl ?_
                              refine sf_aload rfl ?_
                              refine sf_iload rfl ?_
                              refine sf_iconst sf_c1 (fun z1712 ez1712 => ?_)
                              refine sf_iadd (by omega) (fun v1713 ev1713 => ?_)
                              refine sf_sldk (x := x4) (k := 1) (by omega) (by omega) (by omega) ?_
                              clear ev1713 ez1712
                              refine sf_aload rfl ?_
                              refine sf_iload rfl ?_
                              refine sf_iconst sf_c2 (fun z1714 ez1714 => ?_)
                              refine sf_iadd (by omega) (fun v1715 ev1715 => ?_)
                              refine sf_sldk (x := x4) (k := 2) (by omega) (by omega) (by omega) ?_
                              clear ev1715 ez1714
                              refine sf_callv3 rfl (by omega) (by omega) ?_
                              refine sf_rv Iw1644 rfl ?_
                              refine sc_M_madeIn Iw1644 (by rw [c1656]; rw [c1657]; rw [c1647]; exact f_1) (by rw [c1699]; rw [c1700]; exact hRKx) (fun v1716 w1717 Iw1717 tw1717 lv1716 uv1716 q1718_0 => ?_)
                              rw [c1656] at q1718_0
                              rw [c1657] at q1718_0
                              rw [c1702] at q1718_0
                              rw [c1704] at q1718_0
                              rw [c1662] at q1718_0
                              rw [c1664] at q1718_0
                              rw [c1666] at q1718_0
                              rw [c1668] at q1718_0
                              rw [c1659] at q1718_0
                              rw [c1699] at q1718_0
                              rw [c1700] at q1718_0
                              rw [c1710] at q1718_0
                              rw [c1711] at q1718_0
                              rw [c1706] at q1718_0
                              rw [c1647] at q1718_0
                              rw [c1649] at q1718_0
                              have c1719 := sf_mf tw1717 (p := 1) (j := 0) rfl
                              have c1720 := sf_mf tw1717 (p := 71) (j := 1) rfl
                              have c1721 := sf_mf tw1717 (p := 1) (j := 5) rfl
                              have c1722 := sf_mf tw1717 (p := 71) (j := 5) rfl
                              have c1723 := sf_mf tw1717 (p := 13) (j := 1) rfl
                              have c1724 := sf_mf tw1717 (p := 71) (j := 10) rfl
                              have c1725 := sf_mf tw1717 (p := 21) (j := 1) rfl
                              have c1726 := sf_mf tw1717 (p := 71) (j := 18) rfl
                              have c1727 := sf_mf tw1717 (p := 35) (j := 0) rfl
                              have c1728 := sf_mf tw1717 (p := 71) (j := 35) rfl
                              have c1729 := sf_ma tw1717 (p := 3) rfl
                              have c1730 := sf_ma tw1717 (p := 72) rfl
                              have c1731 := sf_mg tw1717 (p := 10) rfl
                              have c1732 := sf_ma tw1717 (p := 93) rfl
                              have c1733 := sf_mL tw1717 (p := 130) rfl
                              have c1734 := sf_ma tw1717 (p := 2) rfl
                              have c1735 := sf_ma tw1717 (p := 6) rfl
                              have c1736 := sf_ma tw1717 (p := 75) rfl
                              have c1737 := sf_ma tw1717 (p := 7) rfl
                              have c1738 := sf_ma tw1717 (p := 76) rfl
                              have c1739 := sf_ma tw1717 (p := 8) rfl
                              have c1740 := sf_ma tw1717 (p := 77) rfl
                              have c1741 := sf_ma tw1717 (p := 9) rfl
                              have c1742 := sf_ma tw1717 (p := 78) rfl
                              have c1743 := sf_ma tw1717 (p := 14) rfl
                              have c1744 := sf_ma tw1717 (p := 79) rfl
                              have c1745 := sf_ma tw1717 (p := 15) rfl
                              have c1746 := sf_ma tw1717 (p := 80) rfl
                              have c1747 := sf_ma tw1717 (p := 16) rfl
                              have c1748 := sf_ma tw1717 (p := 81) rfl
                              have c1749 := sf_ma tw1717 (p := 17) rfl
                              have c1750 := sf_ma tw1717 (p := 82) rfl
                              have c1751 := sf_ma tw1717 (p := 18) rfl
                              have c1752 := sf_ma tw1717 (p := 83) rfl
                              have c1753 := sf_ma tw1717 (p := 19) rfl
                              have c1754 := sf_ma tw1717 (p := 84) rfl
                              have c1755 := sf_ma tw1717 (p := 20) rfl
                              have c1756 := sf_ma tw1717 (p := 85) rfl
                              have c1757 := sf_ma tw1717 (p := 24) rfl
                              have c1758 := sf_ma tw1717 (p := 86) rfl
                              have c1759 := sf_ma tw1717 (p := 25) rfl
                              have c1760 := sf_ma tw1717 (p := 87) rfl
                              have c1761 := sf_ma tw1717 (p := 23) rfl
                              have c1762 := sf_ma tw1717 (p := 88) rfl
                              have c1763 := sf_ma tw1717 (p := 26) rfl
                              have c1764 := sf_ma tw1717 (p := 89) rfl
                              have c1765 := sf_ma tw1717 (p := 27) rfl
                              have c1766 := sf_ma tw1717 (p := 90) rfl
                              have c1767 := sf_ma tw1717 (p := 36) rfl
                              have c1768 := sf_ma tw1717 (p := 102) rfl
                              have c1769 := sf_ma tw1717 (p := 37) rfl
                              have c1770 := sf_ma tw1717 (p := 103) rfl
                              have c1771 := sf_ma tw1717 (p := 34) rfl
                              have c1772 := sf_ma tw1717 (p := 30) rfl
                              have c1773 := sf_ma tw1717 (p := 94) rfl
                              have c1774 := sf_ma tw1717 (p := 95) rfl
                              have c1775 := sf_ma tw1717 (p := 4) rfl
                              have c1776 := sf_ma tw1717 (p := 73) rfl
                              have c1777 := sf_ma tw1717 (p := 5) rfl
                              have c1778 := sf_ma tw1717 (p := 74) rfl
                              have c1779 := sf_ma tw1717 (p := 29) rfl
                              have c1780 := sf_ma tw1717 (p := 98) rfl
                              have c1781 := sf_mg tw1717 (p := 31) rfl
                              have c1782 := sf_mg tw1717 (p := 32) rfl
                              have c1783 := sf_mg tw1717 (p := 33) rfl
                              have c1784 := sf_ma tw1717 (p := 96) rfl
                              have c1785 := sf_ma tw1717 (p := 97) rfl
                              have G1 := q1718_0
                              clear q1718_0 hRKx
                              have b24 := (sf_fb I_w (p := 71) (ci := 9) (j := 1) rfl rfl)
                              have b4n := (sf_fb I_w (p := 71) (ci := 9) (j := 5) rfl rfl)
                              have hE : 0 ≤ (xs (x4.toInt.toNat + 1)).toInt → (xs (x4.toInt.toNat + 1)).toInt ≤ 15 → 0 ≤ (xs (x4.toInt.toNat + 2)).toInt → (xs (x4.toInt.toNat + 2)).toInt ≤ 3 → sp_i ((sm_D (sm_V (sm_pc (sf_a w 30)) (sm_g2 (sf_g w 31)) (sm_gv (sf_g w 32)) (sm_lg (sf_a w 29 (xs (x4.toInt.toNat + 2)).toInt.toNat) (sf_g w 33)) (sm_cl (sc_b (sf_a w 2) (sf_a w 6) (sf_a w 7) (sf_a w 8) (sf_a w 9) (sf_a w 3) (sp_ag (sf_g w 10)) (sf_f w 1 5).toInt (sf_f w 1 0).toInt)) (sm_rc (sf_a w 2) (sf_a w 4)) (sm_ah (sf_a w 4)) (sm_ah (sf_a w 5))) 16) (xs (x4.toInt.toNat + 1)).toInt.toNat) = sp_i ((sm_D (sm_V (sm_pc (sf_a w 94)) (sm_f5 (sf_a w 95)) (sm_fv (sf_a w 96)) (sm_lf (sf_a w 98 (xs (x4.toInt.toNat + 2)).toInt.toNat) (sf_a w 97)) (sm_cl (sc_b (sf_a w 72) (sf_a w 75) (sf_a w 76) (sf_a w 77) (sf_a w 78) (sf_a w 3) (sp_aa (sf_a w 93)) (sf_f w 71 5).toInt (sf_f w 71 1).toInt)) (sm_rm (sf_a w 72) (sf_a w 73)) (sm_ah (sf_a w 73)) (sm_ah (sf_a w 74))) 16) (xs (x4.toInt.toNat + 1)).toInt.toNat) := fun h1 h2 h3 h4 => by
                                rw [sm_HE f_22 f_25.1 f_25.2.1 f_25.2.2.1 (f_24 _ (by omega)) (fun g hg => ((sf_arr I_w (p := 94) rfl).2.1 g hg).2) (fun k hk => (sf_arr I_w (p := 95) rfl).2.1 k hk) f_1 f_3 (by omega) f_23.1 f_23.2 (fun i hi => ((sf_arr I_w (p := 4) rfl).2.1 i hi).1) (fun g hg => ?_) 16 _ (by omega)]
                                have h9 : (sc_b (sf_a w 2) (sf_a w 6) (sf_a w 7) (sf_a w 8) (sf_a w 9) (sf_a w 3) (sp_ag (sf_g w 10)) (sf_f w 1 5).toInt (sf_f w 1 0).toInt) (g : Int) < (sf_f w 1 0).toInt := (sc_br (by omega)).2
                                exact ⟨sc_bE f_1 f_3 f_4 f_5 f_6 f_7 (fun i hi => (sf_arr I_w (p := 77) rfl).2.1 i (by omega)) (fun j hj => congrArg Int32.toInt (f_2 _ j (by omega) hj)) (by omega) (by omega) rfl, by omega⟩
                              refine sf_istore (L' := [(5, .inl (.int v1643)), (0, .inl (.ref 100000)), (1, .inl (.ref 0)), (2, .inl (.ref 71)), (3, .inl (.ref 130)), (4, .inl (.int x4))]) rfl ?_
                              refine sf_aload rfl ?_
                              refine sf_callv1 rfl (by omega) (by omega) ?_
                              refine sf_rv Iw1717 rfl ?_
                              refine sf_sp (L := [(0, .inl (.ref 71))]) rfl rfl ?_
                              refine sf_aload rfl ?_
                              refine sf_geti Iw1717 rfl rfl (fun v1786 lv1786 uv1786 ev1786 => ?_)
                              refine sf_ireturn rfl rfl ?_
                              refine sf_iload rfl ?_
                              refine sf_f2_eq (fun h1787 => ?_) (fun h1787 => ?_)
                              · refine sf_iload rfl ?_
                                refine sf_f1_eq (fun h1788 => ?_) (fun h1788 => ?_)
                                · refine sf_aload rfl ?_
                                  refine sf_iconst sf_c0 (fun z1789 ez1789 => ?_)
                                  refine sf_lald Iw1717 rfl (by omega) (fun v1790 ev1790 => ?_)
                                  rw [c1733] at ev1790
                                  rw [show z1789.toInt.toNat = 0 by omega] at ev1790
                                  refine sf_iload rfl ?_
                                  refine sf_f1_eq (fun h1791 => ?_) (fun h1791 => ?_)
                                  · refine sf_lconst (by decide : (0 : Int64).toInt = 0) (fun z1792 ez1792 => ?_)
                                    refine sf_fl_eq (fun h1793 => ?_) (fun h1793 => ?_)
                                    · show kt_W_law_1428 N xs K _ _ _ _ _
                                      refine sf_iinc (L' := [(6, .inl (.int v1716)), (5, .inl (.int v1643)), (0, .inl (.ref 100000)), (1, .inl (.ref 0)), (2, .inl (.ref 71)), (3, .inl (.ref 130))]) (x := x4) sf_c8 rfl rfl (by omega) (fun v1794 ev1794 => ?_)
                                      refine sf_can (L' := [(0, .inl (.ref 100000)), (1, .inl (.ref 0)), (2, .inl (.ref 71)), (3, .inl (.ref 130)), (4, .inl (.int v1794))]) rfl ?_
                                      exact ih _ _ _ _ Iw1717 (by omega) (by omega) (by omega) (by omega) (by rw [c1719, c1646]; rw [c1720, c1647]; rw [c1721, c1648]; rw [c1722, c1649]; rw [c1723, c1650]; rw [c1724, c1651]; rw [c1725, c1652]; rw [c1726, c1653]; rw [c1727, c1654]; rw [c1728, c1655]; omega) (by rw [c1729, c1656]; rw [c1730, c1657]; rw [c1720, c1647]; first | exact f_1 | exact hJ) (by rw [c1731, c1658]; rw [c1732, c1659]; first | exact f_2 | exact hK2) (by rw [c1734, c1660]; rw [c1730, c1657]; rw [c1720, c1647]; first | exact f_3 | exact hQ2) (by rw [c1735, c1661]; rw [c1736, c1662]; rw [c1722, c1649]; first | exact f_4 | exact hQ6) (by rw [c1737, c1663]; rw [c1738, c1664]; rw [c1722, c1649]; first | exact f_5 | exact hQ7) (by rw [c1739, c1665]; rw [c1740, c1666]; rw [c1722, c1649]; first | exact f_6 | exact hQ8) (by rw [c1741, c1667]; rw [c1742, c1668]; rw [c1722, c1649]; first | exact f_7 | exact hQ9) (by rw [c1743, c1669]; rw [c1744, c1670]; rw [c1724, c1651]; first | exact f_8 | exact hQ14) (by rw [c1745, c1671]; rw [c1746, c1672]; rw [c1724, c1651]; first | exact f_9 | exact hQ15) (by rw [c1747, c1673]; rw [c1748, c1674]; rw [c1724, c1651]; first | exact f_10 | exact hQ16) (by rw [c1749, c1675]; rw [c1750, c1676]; rw [c1724, c1651]; first | exact f_11 | exact hQ17) (by rw [c1751, c1677]; rw [c1752, c1678]; rw [c1724, c1651]; first | exact f_12 | exact hQ18) (by rw [c1753, c1679]; rw [c1754, c1680]; rw [c1724, c1651]; first | exact f_13 | exact hQ19) (by rw [c1755, c1681]; rw [c1756, c1682]; rw [c1724, c1651]; first | exact f_14 | exact hQ20) (by rw [c1757, c1683]; rw [c1758, c1684]; rw [c1726, c1653]; first | exact f_15 | exact hQ24) (by rw [c1759, c1685]; rw [c1760, c1686]; rw [c1726, c1653]; first | exact f_16 | exact hQ25) (by rw [c1761, c1687]; rw [c1762, c1688]; rw [c1726, c1653]; first | exact f_17 | exact hQ23) (by rw [c1763, c1689]; rw [c1764, c1690]; rw [c1726, c1653]; first | exact f_18 | exact hQ26) (by rw [c1765, c1691]; rw [c1766, c1692]; rw [c1726, c1653]; first | exact f_19 | exact hQ27) (by rw [c1767, c1693]; rw [c1768, c1694]; rw [c1728, c1655]; first | exact f_20 | exact hQ36) (by rw [c1769, c1695]; rw [c1770, c1696]; rw [c1728, c1655]; first | exact f_21 | exact hQ37) (by rw [c1771, c1697]; rw [c1772, c1698]; rw [c1773, c1699]; rw [c1774, c1700]; exact f_22) (by rw [c1775, c1701]; rw [c1776, c1702]; rw [c1777, c1703]; rw [c1778, c1704]; exact f_23) (by rw [c1779, c1705]; rw [c1780, c1706]; exact f_24) (by rw [c1781, c1707]; rw [c1774, c1700]; rw [c1782, c1708]; rw [c1784, c1710]; rw [c1783, c1709]; rw [c1785, c1711]; rw [c1773, c1699]; exact f_25) (by omega)
                                    · refine sf_iconst sf_c0 (fun z1795 ez1795 => ?_)
                                      exact sf_lend (by omega) (by omega) (by omega)
                                  · refine sf_lconst (by decide : (1 : Int64).toInt = 1) (fun z1796 ez1796 => ?_)
                                    show kt_W_law_814 N xs K _ _ _ _ _
                                    refine sf_fl_eq (fun h1797 => ?_) (fun h1797 => ?_)
                                    · show kt_W_law_1428 N xs K _ _ _ _ _
                                      refine sf_iinc (L' := [(6, .inl (.int v1716)), (5, .inl (.int v1643)), (0, .inl (.ref 100000)), (1, .inl (.ref 0)), (2, .inl (.ref 71)), (3, .inl (.ref 130))]) (x := x4) sf_c8 rfl rfl (by omega) (fun v1798 ev1798 => ?_)
                                      refine sf_can (L' := [(0, .inl (.ref 100000)), (1, .inl (.ref 0)), (2, .inl (.ref 71)), (3, .inl (.ref 130)), (4, .inl (.int v1798))]) rfl ?_
                                      exact ih _ _ _ _ Iw1717 (by omega) (by omega) (by omega) (by omega) (by rw [c1719, c1646]; rw [c1720, c1647]; rw [c1721, c1648]; rw [c1722, c1649]; rw [c1723, c1650]; rw [c1724, c1651]; rw [c1725, c1652]; rw [c1726, c1653]; rw [c1727, c1654]; rw [c1728, c1655]; omega) (by rw [c1729, c1656]; rw [c1730, c1657]; rw [c1720, c1647]; first | exact f_1 | exact hJ) (by rw [c1731, c1658]; rw [c1732, c1659]; first | exact f_2 | exact hK2) (by rw [c1734, c1660]; rw [c1730, c1657]; rw [c1720, c1647]; first | exact f_3 | exact hQ2) (by rw [c1735, c1661]; rw [c1736, c1662]; rw [c1722, c1649]; first | exact f_4 | exact hQ6) (by rw [c1737, c1663]; rw [c1738, c1664]; rw [c1722, c1649]; first | exact f_5 | exact hQ7) (by rw [c1739, c1665]; rw [c1740, c1666]; rw [c1722, c1649]; first | exact f_6 | exact hQ8) (by rw [c1741, c1667]; rw [c1742, c1668]; rw [c1722, c1649]; first | exact f_7 | exact hQ9) (by rw [c1743, c1669]; rw [c1744, c1670]; rw [c1724, c1651]; first | exact f_8 | exact hQ14) (by rw [c1745, c1671]; rw [c1746, c1672]; rw [c1724, c1651]; first | exact f_9 | exact hQ15) (by rw [c1747, c1673]; rw [c1748, c1674]; rw [c1724, c1651]; first | exact f_10 | exact hQ16) (by rw [c1749, c1675]; rw [c1750, c1676]; rw [c1724, c1651]; first | exact f_11 | exact hQ17) (by rw [c1751, c1677]; rw [c1752, c1678]; rw [c1724, c1651]; first | exact f_12 | exact hQ18) (by rw [c1753, c1679]; rw [c1754, c1680]; rw [c1724, c1651]; first | exact f_13 | exact hQ19) (by rw [c1755, c1681]; rw [c1756, c1682]; rw [c1724, c1651]; first | exact f_14 | exact hQ20) (by rw [c1757, c1683]; rw [c1758, c1684]; rw [c1726, c1653]; first | exact f_15 | exact hQ24) (by rw [c1759, c1685]; rw [c1760, c1686]; rw [c1726, c1653]; first | exact f_16 | exact hQ25) (by rw [c1761, c1687]; rw [c1762, c1688]; rw [c1726, c1653]; first | exact f_17 | exact hQ23) (by rw [c1763, c1689]; rw [c1764, c1690]; rw [c1726, c1653]; first | exact f_18 | exact hQ26) (by rw [c1765, c1691]; rw [c1766, c1692]; rw [c1726, c1653]; first | exact f_19 | exact hQ27) (by rw [c1767, c1693]; rw [c1768, c1694]; rw [c1728, c1655]; first | exact f_20 | exact hQ36) (by rw [c1769, c1695]; rw [c1770, c1696]; rw [c1728, c1655]; first | exact f_21 | exact hQ37) (by rw [c1771, c1697]; rw [c1772, c1698]; rw [c1773, c1699]; rw [c1774, c1700]; exact f_22) (by rw [c1775, c1701]; rw [c1776, c1702]; rw [c1777, c1703]; rw [c1778, c1704]; exact f_23) (by rw [c1779, c1705]; rw [c1780, c1706]; exact f_24) (by rw [c1781, c1707]; rw [c1774, c1700]; rw [c1782, c1708]; rw [c1784, c1710]; rw [c1783, c1709]; rw [c1785, c1711]; rw [c1773, c1699]; exact f_25) (by omega)
                                    · refine sf_iconst sf_c0 (fun z1799 ez1799 => ?_)
                                      exact sf_lend (by omega) (by omega) (by omega)
                                · show kt_W_law_1428 N xs K _ _ _ _ _
                                  refine sf_iinc (L' := [(6, .inl (.int v1716)), (5, .inl (.int v1643)), (0, .inl (.ref 100000)), (1, .inl (.ref 0)), (2, .inl (.ref 71)), (3, .inl (.ref 130))]) (x := x4) sf_c8 rfl rfl (by omega) (fun v1800 ev1800 => ?_)
                                  refine sf_can (L' := [(0, .inl (.ref 100000)), (1, .inl (.ref 0)), (2, .inl (.ref 71)), (3, .inl (.ref 130)), (4, .inl (.int v1800))]) rfl ?_
                                  exact ih _ _ _ _ Iw1717 (by omega) (by omega) (by omega) (by omega) (by rw [c1719, c1646]; rw [c1720, c1647]; rw [c1721, c1648]; rw [c1722, c1649]; rw [c1723, c1650]; rw [c1724, c1651]; rw [c1725, c1652]; rw [c1726, c1653]; rw [c1727, c1654]; rw [c1728, c1655]; omega) (by rw [c1729, c1656]; rw [c1730, c1657]; rw [c1720, c1647]; first | exact f_1 | exact hJ) (by rw [c1731, c1658]; rw [c1732, c1659]; first | exact f_2 | exact hK2) (by rw [c1734, c1660]; rw [c1730, c1657]; rw [c1720, c1647]; first | exact f_3 | exact hQ2) (by rw [c1735, c1661]; rw [c1736, c1662]; rw [c1722, c1649]; first | exact f_4 | exact hQ6) (by rw [c1737, c1663]; rw [c1738, c1664]; rw [c1722, c1649]; first | exact f_5 | exact hQ7) (by rw [c1739, c1665]; rw [c1740, c1666]; rw [c1722, c1649]; first | exact f_6 | exact hQ8) (by rw [c1741, c1667]; rw [c1742, c1668]; rw [c1722, c1649]; first | exact f_7 | exact hQ9) (by rw [c1743, c1669]; rw [c1744, c1670]; rw [c1724, c1651]; first | exact f_8 | exact hQ14) (by rw [c1745, c1671]; rw [c1746, c1672]; rw [c1724, c1651]; first | exact f_9 | exact hQ15) (by rw [c1747, c1673]; rw [c1748, c1674]; rw [c1724, c1651]; first | exact f_10 | exact hQ16) (by rw [c1749, c1675]; rw [c1750, c1676]; rw [c1724, c1651]; first | exact f_11 | exact hQ17) (by rw [c1751, c1677]; rw [c1752, c1678]; rw [c1724, c1651]; first | exact f_12 | exact hQ18) (by rw [c1753, c1679]; rw [c1754, c1680]; rw [c1724, c1651]; first | exact f_13 | exact hQ19) (by rw [c1755, c1681]; rw [c1756, c1682]; rw [c1724, c1651]; first | exact f_14 | exact hQ20) (by rw [c1757, c1683]; rw [c1758, c1684]; rw [c1726, c1653]; first | exact f_15 | exact hQ24) (by rw [c1759, c1685]; rw [c1760, c1686]; rw [c1726, c1653]; first | exact f_16 | exact hQ25) (by rw [c1761, c1687]; rw [c1762, c1688]; rw [c1726, c1653]; first | exact f_17 | exact hQ23) (by rw [c1763, c1689]; rw [c1764, c1690]; rw [c1726, c1653]; first | exact f_18 | exact hQ26) (by rw [c1765, c1691]; rw [c1766, c1692]; rw [c1726, c1653]; first | exact f_19 | exact hQ27) (by rw [c1767, c1693]; rw [c1768, c1694]; rw [c1728, c1655]; first | exact f_20 | exact hQ36) (by rw [c1769, c1695]; rw [c1770, c1696]; rw [c1728, c1655]; first | exact f_21 | exact hQ37) (by rw [c1771, c1697]; rw [c1772, c1698]; rw [c1773, c1699]; rw [c1774, c1700]; exact f_22) (by rw [c1775, c1701]; rw [c1776, c1702]; rw [c1777, c1703]; rw [c1778, c1704]; exact f_23) (by rw [c1779, c1705]; rw [c1780, c1706]; exact f_24) (by rw [c1781, c1707]; rw [c1774, c1700]; rw [c1782, c1708]; rw [c1784, c1710]; rw [c1783, c1709]; rw [c1785, c1711]; rw [c1773, c1699]; exact f_25) (by omega)
                              · refine sf_iconst sf_c0 (fun z1801 ez1801 => ?_)
                                exact sf_lend (by omega) (by omega) (by omega)
                            · clear h1638
                              refine sf_sw1 sf_c12 (fun h1802 => ?_) (fun h1802 => ?_)
                              · refine sf_aload rfl ?_
                                refine sf_aload rfl ?_
                                refine sf_iload rfl ?_
                                refine sf_iconst sf_c1 (fun z1803 ez1803 => ?_)
                                refine sf_iadd (by omega) (fun v1804 ev1804 => ?_)
                                refine sf_sldk (x := x4) (k := 1) (by omega) (by omega) (by omega) ?_
                                clear ev1804 ez1803
                                refine sf_aload rfl ?_
                                refine sf_iload rfl ?_
                                refine sf_iconst sf_c2 (fun z1805 ez1805 => ?_)
                                refine sf_iadd (by omega) (fun v1806 ev1806 => ?_)
                                refine sf_sldk (x := x4) (k := 2) (by omega) (by omega) (by omega) ?_
                                clear ev1806 ez1805
                                refine sf_aload rfl ?_
                                refine sf_callv4 rfl (by omega) (by omega) ?_
                                refine sc_W_declare_0_130 I_w  (fun v1807 w1808 Iw1808 tw1808 lv1807 uv1807 q1809_0 q1809_1 q1809_2 => ?_)
                                have c1810 := sf_mf tw1808 (p := 1) (j := 0) rfl
                                have c1811 := sf_mf tw1808 (p := 71) (j := 1) rfl
                                have c1812 := sf_mf tw1808 (p := 1) (j := 5) rfl
                                have c1813 := sf_mf tw1808 (p := 71) (j := 5) rfl
                                have c1814 := sf_mf tw1808 (p := 13) (j := 1) rfl
                                have c1815 := sf_mf tw1808 (p := 71) (j := 10) rfl
                                have c1816 := sf_mf tw1808 (p := 21) (j := 1) rfl
                                have c1817 := sf_mf tw1808 (p := 71) (j := 18) rfl
                                have c1818 := sf_mf tw1808 (p := 71) (j := 35) rfl
                                have c1819 := sf_ma tw1808 (p := 3) rfl
                                have c1820 := sf_ma tw1808 (p := 72) rfl
                                have c1821 := sf_mg tw1808 (p := 10) rfl
                                have c1822 := sf_ma tw1808 (p := 93) rfl
                                have c1823 := sf_ma tw1808 (p := 2) rfl
                                have c1824 := sf_ma tw1808 (p := 6) rfl
                                have c1825 := sf_ma tw1808 (p := 75) rfl
                                have c1826 := sf_ma tw1808 (p := 7) rfl
                                have c1827 := sf_ma tw1808 (p := 76) rfl
                                have c1828 := sf_ma tw1808 (p := 8) rfl
                                have c1829 := sf_ma tw1808 (p := 77) rfl
                                have c1830 := sf_ma tw1808 (p := 9) rfl
                                have c1831 := sf_ma tw1808 (p := 78) rfl
                                have c1832 := sf_ma tw1808 (p := 14) rfl
                                have c1833 := sf_ma tw1808 (p := 79) rfl
                                have c1834 := sf_ma tw1808 (p := 15) rfl
                                have c1835 := sf_ma tw1808 (p := 80) rfl
                                have c1836 := sf_ma tw1808 (p := 16) rfl
                                have c1837 := sf_ma tw1808 (p := 81) rfl
                                have c1838 := sf_ma tw1808 (p := 17) rfl
                                have c1839 := sf_ma tw1808 (p := 82) rfl
                                have c1840 := sf_ma tw1808 (p := 18) rfl
                                have c1841 := sf_ma tw1808 (p := 83) rfl
                                have c1842 := sf_ma tw1808 (p := 19) rfl
                                have c1843 := sf_ma tw1808 (p := 84) rfl
                                have c1844 := sf_ma tw1808 (p := 20) rfl
                                have c1845 := sf_ma tw1808 (p := 85) rfl
                                have c1846 := sf_ma tw1808 (p := 24) rfl
                                have c1847 := sf_ma tw1808 (p := 86) rfl
                                have c1848 := sf_ma tw1808 (p := 25) rfl
                                have c1849 := sf_ma tw1808 (p := 87) rfl
                                have c1850 := sf_ma tw1808 (p := 23) rfl
                                have c1851 := sf_ma tw1808 (p := 88) rfl
                                have c1852 := sf_ma tw1808 (p := 26) rfl
                                have c1853 := sf_ma tw1808 (p := 89) rfl
                                have c1854 := sf_ma tw1808 (p := 27) rfl
                                have c1855 := sf_ma tw1808 (p := 90) rfl
                                have c1856 := sf_ma tw1808 (p := 102) rfl
                                have c1857 := sf_ma tw1808 (p := 103) rfl
                                have c1858 := sf_ma tw1808 (p := 34) rfl
                                have c1859 := sf_ma tw1808 (p := 30) rfl
                                have c1860 := sf_ma tw1808 (p := 94) rfl
                                have c1861 := sf_ma tw1808 (p := 95) rfl
                                have c1862 := sf_ma tw1808 (p := 4) rfl
                                have c1863 := sf_ma tw1808 (p := 73) rfl
                                have c1864 := sf_ma tw1808 (p := 5) rfl
                                have c1865 := sf_ma tw1808 (p := 74) rfl
                                have c1866 := sf_ma tw1808 (p := 29) rfl
                                have c1867 := sf_ma tw1808 (p := 98) rfl
                                have c1868 := sf_mg tw1808 (p := 31) rfl
                                have c1869 := sf_mg tw1808 (p := 32) rfl
                                have c1870 := sf_mg tw1808 (p := 33) rfl
                                have c1871 := sf_ma tw1808 (p := 96) rfl
                                have c1872 := sf_ma tw1808 (p := 97) rfl
                                have U36 := q1809_1
                                have U37 := q1809_2
                                clear q1809_1 q1809_2
                                have F1 := q1809_0
                                refine sf_istore (L' := [(0, .inl (.ref 100000)), (1, .inl (.ref 0)), (2, .inl (.ref 71)), (3, .inl (.ref 130)), (4, .inl (.int x4))]) rfl ?_
                                refine sf_aload rfl ?_
                                refine sf_aload rfl ?_
                                refine sf_iload rfl ?_
                                refine sf_iconst sf_c1 (fun z1873 ez1873 => ?_)
                                refine sf_iadd (by omega) (fun v1874 ev1874 => ?_)
                                refine sf_sldk (x := x4) (k := 1) (by omega) (by omega) (by omega) ?_
                                clear ev1874 ez1873
                                refine sf_aload rfl ?_
                                refine sf_iload rfl ?_
                                refine sf_iconst sf_c2 (fun z1875 ez1875 => ?_)
                                refine sf_iadd (by omega) (fun v1876 ev1876 => ?_)
                                refine sf_sldk (x := x4) (k := 2) (by omega) (by omega) (by omega) ?_
                                clear ev1876 ez1875
                                refine sf_callv3 rfl (by omega) (by omega) ?_
                                refine sf_rv Iw1808 rfl ?_
                                refine sc_M_declare Iw1808  (fun v1877 w1878 Iw1878 tw1878 lv1877 uv1877 q1879_0 q1879_1 q1879_2 => ?_)
                                rw [c1818] at q1879_0
                                rw [c1856] at q1879_1
                                rw [c1818] at q1879_1
                                rw [c1857] at q1879_2
                                rw [c1818] at q1879_2
                                have c1880 := sf_mf tw1878 (p := 1) (j := 0) rfl
                                have c1881 := sf_mf tw1878 (p := 71) (j := 1) rfl
                                have c1882 := sf_mf tw1878 (p := 1) (j := 5) rfl
                                have c1883 := sf_mf tw1878 (p := 71) (j := 5) rfl
                                have c1884 := sf_mf tw1878 (p := 13) (j := 1) rfl
                                have c1885 := sf_mf tw1878 (p := 71) (j := 10) rfl
                                have c1886 := sf_mf tw1878 (p := 21) (j := 1) rfl
                                have c1887 := sf_mf tw1878 (p := 71) (j := 18) rfl
                                have c1888 := sf_mf tw1878 (p := 35) (j := 0) rfl
                                have c1889 := sf_ma tw1878 (p := 3) rfl
                                have c1890 := sf_ma tw1878 (p := 72) rfl
                                have c1891 := sf_mg tw1878 (p := 10) rfl
                                have c1892 := sf_ma tw1878 (p := 93) rfl
                                have c1893 := sf_mL tw1878 (p := 130) rfl
                                have c1894 := sf_ma tw1878 (p := 2) rfl
                                have c1895 := sf_ma tw1878 (p := 6) rfl
                                have c1896 := sf_ma tw1878 (p := 75) rfl
                                have c1897 := sf_ma tw1878 (p := 7) rfl
                                have c1898 := sf_ma tw1878 (p := 76) rfl
                                have c1899 := sf_ma tw1878 (p := 8) rfl
                                have c1900 := sf_ma tw1878 (p := 77) rfl
                                have c1901 := sf_ma tw1878 (p := 9) rfl
                                have c1902 := sf_ma tw1878 (p := 78) rfl
                                have c1903 := sf_ma tw1878 (p := 14) rfl
                                have c1904 := sf_ma tw1878 (p := 79) rfl
                                have c1905 := sf_ma tw1878 (p := 15) rfl
                                have c1906 := sf_ma tw1878 (p := 80) rfl
                                have c1907 := sf_ma tw1878 (p := 16) rfl
                                have c1908 := sf_ma tw1878 (p := 81) rfl
                                have c1909 := sf_ma tw1878 (p := 17) rfl
                                have c1910 := sf_ma tw1878 (p := 82) rfl
                                have c1911 := sf_ma tw1878 (p := 18) rfl
                                have c1912 := sf_ma tw1878 (p := 83) rfl
                                have c1913 := sf_ma tw1878 (p := 19) rfl
                                have c1914 := sf_ma tw1878 (p := 84) rfl
                                have c1915 := sf_ma tw1878 (p := 20) rfl
                                have c1916 := sf_ma tw1878 (p := 85) rfl
                                have c1917 := sf_ma tw1878 (p := 24) rfl
                                have c1918 := sf_ma tw1878 (p := 86) rfl
                                have c1919 := sf_ma tw1878 (p := 25) rfl
                                have c1920 := sf_ma tw1878 (p := 87) rfl
                                have c1921 := sf_ma tw1878 (p := 23) rfl
                                have c1922 := sf_ma tw1878 (p := 88) rfl
                                have c1923 := sf_ma tw1878 (p := 26) rfl
                                have c1924 := sf_ma tw1878 (p := 89) rfl
                                have c1925 := sf_ma tw1878 (p := 27) rfl
                                have c1926 := sf_ma tw1878 (p := 90) rfl
                                have c1927 := sf_ma tw1878 (p := 36) rfl
                                have c1928 := sf_ma tw1878 (p := 37) rfl
                                have c1929 := sf_ma tw1878 (p := 34) rfl
                                have c1930 := sf_ma tw1878 (p := 30) rfl
                                have c1931 := sf_ma tw1878 (p := 94) rfl
                                have c1932 := sf_ma tw1878 (p := 95) rfl
                                have c1933 := sf_ma tw1878 (p := 4) rfl
                                have c1934 := sf_ma tw1878 (p := 73) rfl
                                have c1935 := sf_ma tw1878 (p := 5) rfl
                                have c1936 := sf_ma tw1878 (p := 74) rfl
                                have c1937 := sf_ma tw1878 (p := 29) rfl
                                have c1938 := sf_ma tw1878 (p := 98) rfl
                                have c1939 := sf_mg tw1878 (p := 31) rfl
                                have c1940 := sf_mg tw1878 (p := 32) rfl
                                have c1941 := sf_mg tw1878 (p := 33) rfl
                                have c1942 := sf_ma tw1878 (p := 96) rfl
                                have c1943 := sf_ma tw1878 (p := 97) rfl
                                have U102 := q1879_1
                                have U103 := q1879_2
                                clear q1879_1 q1879_2
                                have G1 := q1879_0
                                have hrc : v1807.toInt = (sf_f w1878 71 0).toInt := by omega
                                have hcn : (v1807.toInt = 0 ∧ (sf_f w1878 71 35).toInt = (sf_f w 71 35).toInt + 1) ∨ (v1807.toInt ≠ 0 ∧ (sf_f w1878 71 35).toInt = (sf_f w 71 35).toInt) := by omega
                                have hQ36 := sf_QH f_20 U36 U102 (by omega) hrc hcn
                                have hQ37 := sf_QH f_21 U37 U103 (by omega) hrc hcn
                                refine sf_istore (L' := [(5, .inl (.int v1807)), (0, .inl (.ref 100000)), (1, .inl (.ref 0)), (2, .inl (.ref 71)), (3, .inl (.ref 130)), (4, .inl (.int x4))]) rfl ?_
                                show kt_W_law_1428 N xs K _ _ _ _ _
                                refine sf_iinc (L' := [(6, .inl (.int v1877)), (5, .inl (.int v1807)), (0, .inl (.ref 100000)), (1, .inl (.ref 0)), (2, .inl (.ref 71)), (3, .inl (.ref 130))]) (x := x4) sf_c8 rfl rfl (by omega) (fun v1944 ev1944 => ?_)
                                refine sf_can (L' := [(0, .inl (.ref 100000)), (1, .inl (.ref 0)), (2, .inl (.ref 71)), (3, .inl (.ref 130)), (4, .inl (.int v1944))]) rfl ?_
                                exact ih _ _ _ _ Iw1878 (by omega) (by omega) (by omega) (by omega) (by rw [c1880, c1810]; rw [c1881, c1811]; rw [c1882, c1812]; rw [c1883, c1813]; rw [c1884, c1814]; rw [c1885, c1815]; rw [c1886, c1816]; rw [c1887, c1817]; rw [c1888]; omega) (by rw [c1889, c1819]; rw [c1890, c1820]; rw [c1881, c1811]; first | exact f_1 | exact hJ) (by rw [c1891, c1821]; rw [c1892, c1822]; first | exact f_2 | exact hK2) (by rw [c1894, c1823]; rw [c1890, c1820]; rw [c1881, c1811]; first | exact f_3 | exact hQ2) (by rw [c1895, c1824]; rw [c1896, c1825]; rw [c1883, c1813]; first | exact f_4 | exact hQ6) (by rw [c1897, c1826]; rw [c1898, c1827]; rw [c1883, c1813]; first | exact f_5 | exact hQ7) (by rw [c1899, c1828]; rw [c1900, c1829]; rw [c1883, c1813]; first | exact f_6 | exact hQ8) (by rw [c1901, c1830]; rw [c1902, c1831]; rw [c1883, c1813]; first | exact f_7 | exact hQ9) (by rw [c1903, c1832]; rw [c1904, c1833]; rw [c1885, c1815]; first | exact f_8 | exact hQ14) (by rw [c1905, c1834]; rw [c1906, c1835]; rw [c1885, c1815]; first | exact f_9 | exact hQ15) (by rw [c1907, c1836]; rw [c1908, c1837]; rw [c1885, c1815]; first | exact f_10 | exact hQ16) (by rw [c1909, c1838]; rw [c1910, c1839]; rw [c1885, c1815]; first | exact f_11 | exact hQ17) (by rw [c1911, c1840]; rw [c1912, c1841]; rw [c1885, c1815]; first | exact f_12 | exact hQ18) (by rw [c1913, c1842]; rw [c1914, c1843]; rw [c1885, c1815]; first | exact f_13 | exact hQ19) (by rw [c1915, c1844]; rw [c1916, c1845]; rw [c1885, c1815]; first | exact f_14 | exact hQ20) (by rw [c1917, c1846]; rw [c1918, c1847]; rw [c1887, c1817]; first | exact f_15 | exact hQ24) (by rw [c1919, c1848]; rw [c1920, c1849]; rw [c1887, c1817]; first | exact f_16 | exact hQ25) (by rw [c1921, c1850]; rw [c1922, c1851]; rw [c1887, c1817]; first | exact f_17 | exact hQ23) (by rw [c1923, c1852]; rw [c1924, c1853]; rw [c1887, c1817]; first | exact f_18 | exact hQ26) (by rw [c1925, c1854]; rw [c1926, c1855]; rw [c1887, c1817]; first | exact f_19 | exact hQ27) (by rw [c1927]; first | exact f_20 | exact hQ36) (by rw [c1928]; first | exact f_21 | exact hQ37) (by rw [c1929, c1858]; rw [c1930, c1859]; rw [c1931, c1860]; rw [c1932, c1861]; exact f_22) (by rw [c1933, c1862]; rw [c1934, c1863]; rw [c1935, c1864]; rw [c1936, c1865]; exact f_23) (by rw [c1937, c1866]; rw [c1938, c1867]; exact f_24) (by rw [c1939, c1868]; rw [c1932, c1861]; rw [c1940, c1869]; rw [c1942, c1871]; rw [c1941, c1870]; rw [c1943, c1872]; rw [c1931, c1860]; exact f_25) (by omega)
                              · clear h1802
                                refine sf_sw1 sf_c13 (fun h1945 => ?_) (fun h1945 => ?_)
                                · refine sf_aload rfl ?_
                                  refine sf_aload rfl ?_
                                  refine sf_iload rfl ?_
                                  refine sf_iconst sf_c1 (fun z1946 ez1946 => ?_)
                                  refine sf_iadd (by omega) (fun v1947 ev1947 => ?_)
                                  refine sf_sldk (x := x4) (k := 1) (by omega) (by omega) (by omega) ?_
                                  clear ev1947 ez1946
                                  refine sf_aload rfl ?_
                                  refine sf_iload rfl ?_
                                  refine sf_iconst sf_c2 (fun z1948 ez1948 => ?_)
                                  refine sf_iadd (by omega) (fun v1949 ev1949 => ?_)
                                  refine sf_sldk (x := x4) (k := 2) (by omega) (by omega) (by omega) ?_
                                  clear ev1949 ez1948
                                  refine sf_aload rfl ?_
                                  refine sf_iload rfl ?_
                                  refine sf_iconst sf_c3 (fun z1950 ez1950 => ?_)
                                  refine sf_iadd (by omega) (fun v1951 ev1951 => ?_)
                                  refine sf_sldk (x := x4) (k := 3) (by omega) (by omega) (by omega) ?_
                                  clear ev1951 ez1950
                                  refine sf_aload rfl ?_
                                  refine sf_iload rfl ?_
                                  refine sf_iconst sf_c4 (fun z1952 ez1952 => ?_)
                                  refine sf_iadd (by omega) (fun v1953 ev1953 => ?_)
                                  refine sf_sldk (x := x4) (k := 4) (by omega) (by omega) (by omega) ?_
                                  clear ev1953 ez1952
                                  refine sf_aload rfl ?_
                                  refine sf_iload rfl ?_
                                  refine sf_iconst sf_c5 (fun z1954 ez1954 => ?_)
                                  refine sf_iadd (by omega) (fun v1955 ev1955 => ?_)
                                  refine sf_sldk (x := x4) (k := 5) (by omega) (by omega) (by omega) ?_
                                  clear ev1955 ez1954
                                  refine sf_aload rfl ?_
                                  refine sf_iload rfl ?_
                                  refine sf_iconst sf_c6 (fun z1956 ez1956 => ?_)
                                  refine sf_iadd (by omega) (fun v1957 ev1957 => ?_)
                                  refine sf_sldk (x := x4) (k := 6) (by omega) (by omega) (by omega) ?_
                                  clear ev1957 ez1956
                                  refine sf_aload rfl ?_
                                  refine sf_iload rfl ?_
                                  refine sf_iconst sf_c7 (fun z1958 ez1958 => ?_)
                                  refine sf_iadd (by omega) (fun v1959 ev1959 => ?_)
                                  refine sf_sldk (x := x4) (k := 7) (by omega) (by omega) (by omega) ?_
                                  clear ev1959 ez1958
                                  refine sf_f1_eq (fun h1960 => ?_) (fun h1960 => ?_)
                                  · refine sf_iconst sf_c0 (fun z1961 ez1961 => ?_)
                                    refine sf_aload rfl ?_
                                    refine sf_callv9 rfl (by omega) (by omega) ?_
                                    refine sc_W_line_0_130 I_w (by omega) (by omega) (fun v1962 w1963 Iw1963 tw1963 lv1962 uv1962 => ?_)
                                    have c1965 := sf_mf tw1963 (p := 1) (j := 0) rfl
                                    have c1966 := sf_mf tw1963 (p := 71) (j := 1) rfl
                                    have c1967 := sf_mf tw1963 (p := 1) (j := 5) rfl
                                    have c1968 := sf_mf tw1963 (p := 71) (j := 5) rfl
                                    have c1969 := sf_mf tw1963 (p := 13) (j := 1) rfl
                                    have c1970 := sf_mf tw1963 (p := 71) (j := 10) rfl
                                    have c1971 := sf_mf tw1963 (p := 21) (j := 1) rfl
                                    have c1972 := sf_mf tw1963 (p := 71) (j := 18) rfl
                                    have c1973 := sf_mf tw1963 (p := 35) (j := 0) rfl
                                    have c1974 := sf_mf tw1963 (p := 71) (j := 35) rfl
                                    have c1975 := sf_ma tw1963 (p := 3) rfl
                                    have c1976 := sf_ma tw1963 (p := 72) rfl
                                    have c1977 := sf_mg tw1963 (p := 10) rfl
                                    have c1978 := sf_ma tw1963 (p := 93) rfl
                                    have c1979 := sf_ma tw1963 (p := 2) rfl
                                    have c1980 := sf_ma tw1963 (p := 6) rfl
                                    have c1981 := sf_ma tw1963 (p := 75) rfl
                                    have c1982 := sf_ma tw1963 (p := 7) rfl
                                    have c1983 := sf_ma tw1963 (p := 76) rfl
                                    have c1984 := sf_ma tw1963 (p := 8) rfl
                                    have c1985 := sf_ma tw1963 (p := 77) rfl
                                    have c1986 := sf_ma tw1963 (p := 9) rfl
                                    have c1987 := sf_ma tw1963 (p := 78) rfl
                                    have c1988 := sf_ma tw1963 (p := 14) rfl
                                    have c1989 := sf_ma tw1963 (p := 79) rfl
                                    have c1990 := sf_ma tw1963 (p := 15) rfl
                                    have c1991 := sf_ma tw1963 (p := 80) rfl
                                    have c1992 := sf_ma tw1963 (p := 16) rfl
                                    have c1993 := sf_ma tw1963 (p := 81) rfl
                                    have c1994 := sf_ma tw1963 (p := 17) rfl
                                    have c1995 := sf_ma tw1963 (p := 82) rfl
                                    have c1996 := sf_ma tw1963 (p := 18) rfl
                                    have c1997 := sf_ma tw1963 (p := 83) rfl
                                    have c1998 := sf_ma tw1963 (p := 19) rfl
                                    have c1999 := sf_ma tw1963 (p := 84) rfl
                                    have c2000 := sf_ma tw1963 (p := 20) rfl
                                    have c2001 := sf_ma tw1963 (p := 85) rfl
                                    have c2002 := sf_ma tw1963 (p := 24) rfl
                                    have c2003 := sf_ma tw1963 (p := 86) rfl
                                    have c2004 := sf_ma tw1963 (p := 25) rfl
                                    have c2005 := sf_ma tw1963 (p := 87) rfl
                                    have c2006 := sf_ma tw1963 (p := 23) rfl
                                    have c2007 := sf_ma tw1963 (p := 88) rfl
                                    have c2008 := sf_ma tw1963 (p := 26) rfl
                                    have c2009 := sf_ma tw1963 (p := 89) rfl
                                    have c2010 := sf_ma tw1963 (p := 27) rfl
                                    have c2011 := sf_ma tw1963 (p := 90) rfl
                                    have c2012 := sf_ma tw1963 (p := 36) rfl
                                    have c2013 := sf_ma tw1963 (p := 102) rfl
                                    have c2014 := sf_ma tw1963 (p := 37) rfl
                                    have c2015 := sf_ma tw1963 (p := 103) rfl
                                    have c2016 := sf_ma tw1963 (p := 34) rfl
                                    have c2017 := sf_ma tw1963 (p := 30) rfl
                                    have c2018 := sf_ma tw1963 (p := 94) rfl
                                    have c2019 := sf_ma tw1963 (p := 95) rfl
                                    have c2020 := sf_ma tw1963 (p := 4) rfl
                                    have c2021 := sf_ma tw1963 (p := 73) rfl
                                    have c2022 := sf_ma tw1963 (p := 5) rfl
                                    have c2023 := sf_ma tw1963 (p := 74) rfl
                                    have c2024 := sf_ma tw1963 (p := 29) rfl
                                    have c2025 := sf_ma tw1963 (p := 98) rfl
                                    have c2026 := sf_mg tw1963 (p := 31) rfl
                                    have c2027 := sf_mg tw1963 (p := 32) rfl
                                    have c2028 := sf_mg tw1963 (p := 33) rfl
                                    have c2029 := sf_ma tw1963 (p := 96) rfl
                                    have c2030 := sf_ma tw1963 (p := 97) rfl
                                    refine sf_istore (L' := [(0, .inl (.ref 100000)), (1, .inl (.ref 0)), (2, .inl (.ref 71)), (3, .inl (.ref 130)), (4, .inl (.int x4))]) rfl ?_
                                    refine sf_aload rfl ?_
                                    refine sf_aload rfl ?_
                                    refine sf_iload rfl ?_
                                    refine sf_iconst sf_c1 (fun z2031 ez2031 => ?_)
                                    refine sf_iadd (by omega) (fun v2032 ev2032 => ?_)
                                    refine sf_sldk (x := x4) (k := 1) (by omega) (by omega) (by omega) ?_
                                    clear ev2032 ez2031
                                    refine sf_aload rfl ?_
                                    refine sf_iload rfl ?_
                                    refine sf_iconst sf_c2 (fun z2033 ez2033 => ?_)
                                    refine sf_iadd (by omega) (fun v2034 ev2034 => ?_)
                                    refine sf_sldk (x := x4) (k := 2) (by omega) (by omega) (by omega) ?_
                                    clear ev2034 ez2033
                                    refine sf_aload rfl ?_
                                    refine sf_iload rfl ?_
                                    refine sf_iconst sf_c3 (fun z2035 ez2035 => ?_)
                                    refine sf_iadd (by omega) (fun v2036 ev2036 => ?_)
                                    refine sf_sldk (x := x4) (k := 3) (by omega) (by omega) (by omega) ?_
                                    clear ev2036 ez2035
                                    refine sf_aload rfl ?_
                                    refine sf_iload rfl ?_
                                    refine sf_iconst sf_c4 (fun z2037 ez2037 => ?_)
                                    refine sf_iadd (by omega) (fun v2038 ev2038 => ?_)
                                    refine sf_sldk (x := x4) (k := 4) (by omega) (by omega) (by omega) ?_
                                    clear ev2038 ez2037
                                    refine sf_aload rfl ?_
                                    refine sf_iload rfl ?_
                                    refine sf_iconst sf_c5 (fun z2039 ez2039 => ?_)
                                    refine sf_iadd (by omega) (fun v2040 ev2040 => ?_)
                                    refine sf_sldk (x := x4) (k := 5) (by omega) (by omega) (by omega) ?_
                                    clear ev2040 ez2039
                                    refine sf_aload rfl ?_
                                    refine sf_iload rfl ?_
                                    refine sf_iconst sf_c6 (fun z2041 ez2041 => ?_)
                                    refine sf_iadd (by omega) (fun v2042 ev2042 => ?_)
                                    refine sf_sldk (x := x4) (k := 6) (by omega) (by omega) (by omega) ?_
                                    clear ev2042 ez2041
                                    refine sf_aload rfl ?_
                                    refine sf_iload rfl ?_
                                    refine sf_iconst sf_c7 (fun z2043 ez2043 => ?_)
                                    refine sf_iadd (by omega) (fun v2044 ev2044 => ?_)
                                    refine sf_sldk (x := x4) (k := 7) (by omega) (by omega) (by omega) ?_
                                    clear ev2044 ez2043
                                    refine sf_f1_eq (fun h2045 => ?_) (fun h2045 => absurd h2045 (by omega))
                                    refine sf_iconst sf_c0 (fun z2046 ez2046 => ?_)
                                    refine sf_callv8 rfl (by omega) (by omega) ?_
                                    refine sf_rv Iw1963 rfl ?_
                                    refine sc_M_line Iw1963 (by omega) (by omega) (fun v2047 w2048 Iw2048 tw2048 lv2047 uv2047 => ?_)
                                    have c2050 := sf_mf tw2048 (p := 1) (j := 0) rfl
                                    have c2051 := sf_mf tw2048 (p := 71) (j := 1) rfl
                                    have c2052 := sf_mf tw2048 (p := 1) (j := 5) rfl
                                    have c2053 := sf_mf tw2048 (p := 71) (j := 5) rfl
                                    have c2054 := sf_mf tw2048 (p := 13) (j := 1) rfl
                                    have c2055 := sf_mf tw2048 (p := 71) (j := 10) rfl
                                    have c2056 := sf_mf tw2048 (p := 21) (j := 1) rfl
                                    have c2057 := sf_mf tw2048 (p := 71) (j := 18) rfl
                                    have c2058 := sf_mf tw2048 (p := 35) (j := 0) rfl
                                    have c2059 := sf_mf tw2048 (p := 71) (j := 35) rfl
                                    have c2060 := sf_ma tw2048 (p := 3) rfl
                                    have c2061 := sf_ma tw2048 (p := 72) rfl
                                    have c2062 := sf_mg tw2048 (p := 10) rfl
                                    have c2063 := sf_ma tw2048 (p := 93) rfl
                                    have c2064 := sf_mL tw2048 (p := 130) rfl
                                    have c2065 := sf_ma tw2048 (p := 2) rfl
                                    have c2066 := sf_ma tw2048 (p := 6) rfl
                                    have c2067 := sf_ma tw2048 (p := 75) rfl
                                    have c2068 := sf_ma tw2048 (p := 7) rfl
                                    have c2069 := sf_ma tw2048 (p := 76) rfl
                                    have c2070 := sf_ma tw2048 (p := 8) rfl
                                    have c2071 := sf_ma tw2048 (p := 77) rfl
                                    have c2072 := sf_ma tw2048 (p := 9) rfl
                                    have c2073 := sf_ma tw2048 (p := 78) rfl
                                    have c2074 := sf_ma tw2048 (p := 14) rfl
                                    have c2075 := sf_ma tw2048 (p := 79) rfl
                                    have c2076 := sf_ma tw2048 (p := 15) rfl
                                    have c2077 := sf_ma tw2048 (p := 80) rfl
                                    have c2078 := sf_ma tw2048 (p := 16) rfl
                                    have c2079 := sf_ma tw2048 (p := 81) rfl
                                    have c2080 := sf_ma tw2048 (p := 17) rfl
                                    have c2081 := sf_ma tw2048 (p := 82) rfl
                                    have c2082 := sf_ma tw2048 (p := 18) rfl
                                    have c2083 := sf_ma tw2048 (p := 83) rfl
                                    have c2084 := sf_ma tw2048 (p := 19) rfl
                                    have c2085 := sf_ma tw2048 (p := 84) rfl
                                    have c2086 := sf_ma tw2048 (p := 20) rfl
                                    have c2087 := sf_ma tw2048 (p := 85) rfl
                                    have c2088 := sf_ma tw2048 (p := 24) rfl
                                    have c2089 := sf_ma tw2048 (p := 86) rfl
                                    have c2090 := sf_ma tw2048 (p := 25) rfl
                                    have c2091 := sf_ma tw2048 (p := 87) rfl
                                    have c2092 := sf_ma tw2048 (p := 23) rfl
                                    have c2093 := sf_ma tw2048 (p := 88) rfl
                                    have c2094 := sf_ma tw2048 (p := 26) rfl
                                    have c2095 := sf_ma tw2048 (p := 89) rfl
                                    have c2096 := sf_ma tw2048 (p := 27) rfl
                                    have c2097 := sf_ma tw2048 (p := 90) rfl
                                    have c2098 := sf_ma tw2048 (p := 36) rfl
                                    have c2099 := sf_ma tw2048 (p := 102) rfl
                                    have c2100 := sf_ma tw2048 (p := 37) rfl
                                    have c2101 := sf_ma tw2048 (p := 103) rfl
                                    have c2102 := sf_ma tw2048 (p := 34) rfl
                                    have c2103 := sf_ma tw2048 (p := 30) rfl
                                    have c2104 := sf_ma tw2048 (p := 94) rfl
                                    have c2105 := sf_ma tw2048 (p := 95) rfl
                                    have c2106 := sf_ma tw2048 (p := 4) rfl
                                    have c2107 := sf_ma tw2048 (p := 73) rfl
                                    have c2108 := sf_ma tw2048 (p := 5) rfl
                                    have c2109 := sf_ma tw2048 (p := 74) rfl
                                    have c2110 := sf_ma tw2048 (p := 29) rfl
                                    have c2111 := sf_ma tw2048 (p := 98) rfl
                                    have c2112 := sf_mg tw2048 (p := 31) rfl
                                    have c2113 := sf_mg tw2048 (p := 32) rfl
                                    have c2114 := sf_mg tw2048 (p := 33) rfl
                                    have c2115 := sf_ma tw2048 (p := 96) rfl
                                    have c2116 := sf_ma tw2048 (p := 97) rfl
                                    refine sf_istore (L' := [(5, .inl (.int v1962)), (0, .inl (.ref 100000)), (1, .inl (.ref 0)), (2, .inl (.ref 71)), (3, .inl (.ref 130)), (4, .inl (.int x4))]) rfl ?_
                                    show kt_W_law_1428 N xs K _ _ _ _ _
                                    refine sf_iinc (L' := [(6, .inl (.int v2047)), (5, .inl (.int v1962)), (0, .inl (.ref 100000)), (1, .inl (.ref 0)), (2, .inl (.ref 71)), (3, .inl (.ref 130))]) (x := x4) sf_c8 rfl rfl (by omega) (fun v2117 ev2117 => ?_)
                                    refine sf_can (L' := [(0, .inl (.ref 100000)), (1, .inl (.ref 0)), (2, .inl (.ref 71)), (3, .inl (.ref 130)), (4, .inl (.int v2117))]) rfl ?_
                                    exact ih _ _ _ _ Iw2048 (by omega) (by omega) (by omega) (by omega) (by rw [c2050, c1965]; rw [c2051, c1966]; rw [c2052, c1967]; rw [c2053, c1968]; rw [c2054, c1969]; rw [c2055, c1970]; rw [c2056, c1971]; rw [c2057, c1972]; rw [c2058, c1973]; rw [c2059, c1974]; omega) (by rw [c2060, c1975]; rw [c2061, c1976]; rw [c2051, c1966]; first | exact f_1 | exact hJ) (by rw [c2062, c1977]; rw [c2063, c1978]; first | exact f_2 | exact hK2) (by rw [c2065, c1979]; rw [c2061, c1976]; rw [c2051, c1966]; first | exact f_3 | exact hQ2) (by rw [c2066, c1980]; rw [c2067, c1981]; rw [c2053, c1968]; first | exact f_4 | exact hQ6) (by rw [c2068, c1982]; rw [c2069, c1983]; rw [c2053, c1968]; first | exact f_5 | exact hQ7) (by rw [c2070, c1984]; rw [c2071, c1985]; rw [c2053, c1968]; first | exact f_6 | exact hQ8) (by rw [c2072, c1986]; rw [c2073, c1987]; rw [c2053, c1968]; first | exact f_7 | exact hQ9) (by rw [c2074, c1988]; rw [c2075, c1989]; rw [c2055, c1970]; first | exact f_8 | exact hQ14) (by rw [c2076, c1990]; rw [c2077, c1991]; rw [c2055, c1970]; first | exact f_9 | exact hQ15) (by rw [c2078, c1992]; rw [c2079, c1993]; rw [c2055, c1970]; first | exact f_10 | exact hQ16) (by rw [c2080, c1994]; rw [c2081, c1995]; rw [c2055, c1970]; first | exact f_11 | exact hQ17) (by rw [c2082, c1996]; rw [c2083, c1997]; rw [c2055, c1970]; first | exact f_12 | exact hQ18) (by rw [c2084, c1998]; rw [c2085, c1999]; rw [c2055, c1970]; first | exact f_13 | exact hQ19) (by rw [c2086, c2000]; rw [c2087, c2001]; rw [c2055, c1970]; first | exact f_14 | exact hQ20) (by rw [c2088, c2002]; rw [c2089, c2003]; rw [c2057, c1972]; first | exact f_15 | exact hQ24) (by rw [c2090, c2004]; rw [c2091, c2005]; rw [c2057, c1972]; first | exact f_16 | exact hQ25) (by rw [c2092, c2006]; rw [c2093, c2007]; rw [c2057, c1972]; first | exact f_17 | exact hQ23) (by rw [c2094, c2008]; rw [c2095, c2009]; rw [c2057, c1972]; first | exact f_18 | exact hQ26) (by rw [c2096, c2010]; rw [c2097, c2011]; rw [c2057, c1972]; first | exact f_19 | exact hQ27) (by rw [c2098, c2012]; rw [c2099, c2013]; rw [c2059, c1974]; first | exact f_20 | exact hQ36) (by rw [c2100, c2014]; rw [c2101, c2015]; rw [c2059, c1974]; first | exact f_21 | exact hQ37) (by rw [c2102, c2016]; rw [c2103, c2017]; rw [c2104, c2018]; rw [c2105, c2019]; exact f_22) (by rw [c2106, c2020]; rw [c2107, c2021]; rw [c2108, c2022]; rw [c2109, c2023]; exact f_23) (by rw [c2110, c2024]; rw [c2111, c2025]; exact f_24) (by rw [c2112, c2026]; rw [c2105, c2019]; rw [c2113, c2027]; rw [c2115, c2029]; rw [c2114, c2028]; rw [c2116, c2030]; rw [c2104, c2018]; exact f_25) (by omega)
                                  · refine sf_iconst sf_c1 (fun z2118 ez2118 => ?_)
                                    show kt_W_law_916 N xs K _ _ _ _ _
                                    refine sf_aload rfl ?_
                                    refine sf_callv9 rfl (by omega) (by omega) ?_
                                    refine sc_W_line_0_130 I_w (by omega) (by omega) (fun v2119 w2120 Iw2120 tw2120 lv2119 uv2119 => ?_)
                                    have c2122 := sf_mf tw2120 (p := 1) (j := 0) rfl
                                    have c2123 := sf_mf tw2120 (p := 71) (j := 1) rfl
                                    have c2124 := sf_mf tw2120 (p := 1) (j := 5) rfl
                                    have c2125 := sf_mf tw2120 (p := 71) (j := 5) rfl
                                    have c2126 := sf_mf tw2120 (p := 13) (j := 1) rfl
                                    have c2127 := sf_mf tw2120 (p := 71) (j := 10) rfl
                                    have c2128 := sf_mf tw2120 (p := 21) (j := 1) rfl
                                    have c2129 := sf_mf tw2120 (p := 71) (j := 18) rfl
                                    have c2130 := sf_mf tw2120 (p := 35) (j := 0) rfl
                                    have c2131 := sf_mf tw2120 (p := 71) (j := 35) rfl
                                    have c2132 := sf_ma tw2120 (p := 3) rfl
                                    have c2133 := sf_ma tw2120 (p := 72) rfl
                                    have c2134 := sf_mg tw2120 (p := 10) rfl
                                    have c2135 := sf_ma tw2120 (p := 93) rfl
                                    have c2136 := sf_ma tw2120 (p := 2) rfl
                                    have c2137 := sf_ma tw2120 (p := 6) rfl
                                    have c2138 := sf_ma tw2120 (p := 75) rfl
                                    have c2139 := sf_ma tw2120 (p := 7) rfl
                                    have c2140 := sf_ma tw2120 (p := 76) rfl
                                    have c2141 := sf_ma tw2120 (p := 8) rfl
                                    have c2142 := sf_ma tw2120 (p := 77) rfl
                                    have c2143 := sf_ma tw2120 (p := 9) rfl
                                    have c2144 := sf_ma tw2120 (p := 78) rfl
                                    have c2145 := sf_ma tw2120 (p := 14) rfl
                                    have c2146 := sf_ma tw2120 (p := 79) rfl
                                    have c2147 := sf_ma tw2120 (p := 15) rfl
                                    have c2148 := sf_ma tw2120 (p := 80) rfl
                                    have c2149 := sf_ma tw2120 (p := 16) rfl
                                    have c2150 := sf_ma tw2120 (p := 81) rfl
                                    have c2151 := sf_ma tw2120 (p := 17) rfl
                                    have c2152 := sf_ma tw2120 (p := 82) rfl
                                    have c2153 := sf_ma tw2120 (p := 18) rfl
                                    have c2154 := sf_ma tw2120 (p := 83) rfl
                                    have c2155 := sf_ma tw2120 (p := 19) rfl
                                    have c2156 := sf_ma tw2120 (p := 84) rfl
                                    have c2157 := sf_ma tw2120 (p := 20) rfl
                                    have c2158 := sf_ma tw2120 (p := 85) rfl
                                    have c2159 := sf_ma tw2120 (p := 24) rfl
                                    have c2160 := sf_ma tw2120 (p := 86) rfl
                                    have c2161 := sf_ma tw2120 (p := 25) rfl
                                    have c2162 := sf_ma tw2120 (p := 87) rfl
                                    have c2163 := sf_ma tw2120 (p := 23) rfl
                                    have c2164 := sf_ma tw2120 (p := 88) rfl
                                    have c2165 := sf_ma tw2120 (p := 26) rfl
                                    have c2166 := sf_ma tw2120 (p := 89) rfl
                                    have c2167 := sf_ma tw2120 (p := 27) rfl
                                    have c2168 := sf_ma tw2120 (p := 90) rfl
                                    have c2169 := sf_ma tw2120 (p := 36) rfl
                                    have c2170 := sf_ma tw2120 (p := 102) rfl
                                    have c2171 := sf_ma tw2120 (p := 37) rfl
                                    have c2172 := sf_ma tw2120 (p := 103) rfl
                                    have c2173 := sf_ma tw2120 (p := 34) rfl
                                    have c2174 := sf_ma tw2120 (p := 30) rfl
                                    have c2175 := sf_ma tw2120 (p := 94) rfl
                                    have c2176 := sf_ma tw2120 (p := 95) rfl
                                    have c2177 := sf_ma tw2120 (p := 4) rfl
                                    have c2178 := sf_ma tw2120 (p := 73) rfl
                                    have c2179 := sf_ma tw2120 (p := 5) rfl
                                    have c2180 := sf_ma tw2120 (p := 74) rfl
                                    have c2181 := sf_ma tw2120 (p := 29) rfl
                                    have c2182 := sf_ma tw2120 (p := 98) rfl
                                    have c2183 := sf_mg tw2120 (p := 31) rfl
                                    have c2184 := sf_mg tw2120 (p := 32) rfl
                                    have c2185 := sf_mg tw2120 (p := 33) rfl
                                    have c2186 := sf_ma tw2120 (p := 96) rfl
                                    have c2187 := sf_ma tw2120 (p := 97) rfl
                                    refine sf_istore (L' := [(0, .inl (.ref 100000)), (1, .inl (.ref 0)), (2, .inl (.ref 71)), (3, .inl (.ref 130)), (4, .inl (.int x4))]) rfl ?_
                                    refine sf_aload rfl ?_
                                    refine sf_aload rfl ?_
                                    refine sf_iload rfl ?_
                                    refine sf_iconst sf_c1 (fun z2188 ez2188 => ?_)
                                    refine sf_iadd (by omega) (fun v2189 ev2189 => ?_)
                                    refine sf_sldk (x := x4) (k := 1) (by omega) (by omega) (by omega) ?_
                                    clear ev2189 ez2188
                                    refine sf_aload rfl ?_
                                    refine sf_iload rfl ?_
                                    refine sf_iconst sf_c2 (fun z2190 ez2190 => ?_)
                                    refine sf_iadd (by omega) (fun v2191 ev2191 => ?_)
                                    refine sf_sldk (x := x4) (k := 2) (by omega) (by omega) (by omega) ?_
                                    clear ev2191 ez2190
                                    refine sf_aload rfl ?_
                                    refine sf_iload rfl ?_
                                    refine sf_iconst sf_c3 (fun z2192 ez2192 => ?_)
                                    refine sf_iadd (by omega) (fun v2193 ev2193 => ?_)
                                    refine sf_sldk (x := x4) (k := 3) (by omega) (by omega) (by omega) ?_
                                    clear ev2193 ez2192
                                    refine sf_aload rfl ?_
                                    refine sf_iload rfl ?_
                                    refine sf_iconst sf_c4 (fun z2194 ez2194 => ?_)
                                    refine sf_iadd (by omega) (fun v2195 ev2195 => ?_)
                                    refine sf_sldk (x := x4) (k := 4) (by omega) (by omega) (by omega) ?_
                                    clear ev2195 ez2194
                                    refine sf_aload rfl ?_
                                    refine sf_iload rfl ?_
                                    refine sf_iconst sf_c5 (fun z2196 ez2196 => ?_)
                                    refine sf_iadd (by omega) (fun v2197 ev2197 => ?_)
                                    refine sf_sldk (x := x4) (k := 5) (by omega) (by omega) (by omega) ?_
                                    clear ev2197 ez2196
                                    refine sf_aload rfl ?_
                                    refine sf_iload rfl ?_
                                    refine sf_iconst sf_c6 (fun z2198 ez2198 => ?_)
                                    refine sf_iadd (by omega) (fun v2199 ev2199 => ?_)
                                    refine sf_sldk (x := x4) (k := 6) (by omega) (by omega) (by omega) ?_
                                    clear ev2199 ez2198
                                    refine sf_aload rfl ?_
                                    refine sf_iload rfl ?_
                                    refine sf_iconst sf_c7 (fun z2200 ez2200 => ?_)
                                    refine sf_iadd (by omega) (fun v2201 ev2201 => ?_)
                                    refine sf_sldk (x := x4) (k := 7) (by omega) (by omega) (by omega) ?_
                                    clear ev2201 ez2200
                                    refine sf_f1_eq (fun h2202 => ?_) (fun h2202 => ?_)
                                    · refine sf_iconst sf_c0 (fun z2203 ez2203 => ?_)
                                      refine sf_callv8 rfl (by omega) (by omega) ?_
                                      refine sf_rv Iw2120 rfl ?_
                                      refine sc_M_line Iw2120 (by omega) (by omega) (fun v2204 w2205 Iw2205 tw2205 lv2204 uv2204 => ?_)
                                      have c2207 := sf_mf tw2205 (p := 1) (j := 0) rfl
                                      have c2208 := sf_mf tw2205 (p := 71) (j := 1) rfl
                                      have c2209 := sf_mf tw2205 (p := 1) (j := 5) rfl
                                      have c2210 := sf_mf tw2205 (p := 71) (j := 5) rfl
                                      have c2211 := sf_mf tw2205 (p := 13) (j := 1) rfl
                                      have c2212 := sf_mf tw2205 (p := 71) (j := 10) rfl
                                      have c2213 := sf_mf tw2205 (p := 21) (j := 1) rfl
                                      have c2214 := sf_mf tw2205 (p := 71) (j := 18) rfl
                                      have c2215 := sf_mf tw2205 (p := 35) (j := 0) rfl
                                      have c2216 := sf_mf tw2205 (p := 71) (j := 35) rfl
                                      have c2217 := sf_ma tw2205 (p := 3) rfl
                                      have c2218 := sf_ma tw2205 (p := 72) rfl
                                      have c2219 := sf_mg tw2205 (p := 10) rfl
                                      have c2220 := sf_ma tw2205 (p := 93) rfl
                                      have c2221 := sf_mL tw2205 (p := 130) rfl
                                      have c2222 := sf_ma tw2205 (p := 2) rfl
                                      have c2223 := sf_ma tw2205 (p := 6) rfl
                                      have c2224 := sf_ma tw2205 (p := 75) rfl
                                      have c2225 := sf_ma tw2205 (p := 7) rfl
                                      have c2226 := sf_ma tw2205 (p := 76) rfl
                                      have c2227 := sf_ma tw2205 (p := 8) rfl
                                      have c2228 := sf_ma tw2205 (p := 77) rfl
                                      have c2229 := sf_ma tw2205 (p := 9) rfl
                                      have c2230 := sf_ma tw2205 (p := 78) rfl
                                      have c2231 := sf_ma tw2205 (p := 14) rfl
                                      have c2232 := sf_ma tw2205 (p := 79) rfl
                                      have c2233 := sf_ma tw2205 (p := 15) rfl
                                      have c2234 := sf_ma tw2205 (p := 80) rfl
                                      have c2235 := sf_ma tw2205 (p := 16) rfl
                                      have c2236 := sf_ma tw2205 (p := 81) rfl
                                      have c2237 := sf_ma tw2205 (p := 17) rfl
                                      have c2238 := sf_ma tw2205 (p := 82) rfl
                                      have c2239 := sf_ma tw2205 (p := 18) rfl
                                      have c2240 := sf_ma tw2205 (p := 83) rfl
                                      have c2241 := sf_ma tw2205 (p := 19) rfl
                                      have c2242 := sf_ma tw2205 (p := 84) rfl
                                      have c2243 := sf_ma tw2205 (p := 20) rfl
                                      have c2244 := sf_ma tw2205 (p := 85) rfl
                                      have c2245 := sf_ma tw2205 (p := 24) rfl
                                      have c2246 := sf_ma tw2205 (p := 86) rfl
                                      have c2247 := sf_ma tw2205 (p := 25) rfl
                                      have c2248 := sf_ma tw2205 (p := 87) rfl
                                      have c2249 := sf_ma tw2205 (p := 23) rfl
                                      have c2250 := sf_ma tw2205 (p := 88) rfl
                                      have c2251 := sf_ma tw2205 (p := 26) rfl
                                      have c2252 := sf_ma tw2205 (p := 89) rfl
                                      have c2253 := sf_ma tw2205 (p := 27) rfl
                                      have c2254 := sf_ma tw2205 (p := 90) rfl
                                      have c2255 := sf_ma tw2205 (p := 36) rfl
                                      have c2256 := sf_ma tw2205 (p := 102) rfl
                                      have c2257 := sf_ma tw2205 (p := 37) rfl
                                      have c2258 := sf_ma tw2205 (p := 103) rfl
                                      have c2259 := sf_ma tw2205 (p := 34) rfl
                                      have c2260 := sf_ma tw2205 (p := 30) rfl
                                      have c2261 := sf_ma tw2205 (p := 94) rfl
                                      have c2262 := sf_ma tw2205 (p := 95) rfl
                                      have c2263 := sf_ma tw2205 (p := 4) rfl
                                      have c2264 := sf_ma tw2205 (p := 73) rfl
                                      have c2265 := sf_ma tw2205 (p := 5) rfl
                                      have c2266 := sf_ma tw2205 (p := 74) rfl
                                      have c2267 := sf_ma tw2205 (p := 29) rfl
                                      have c2268 := sf_ma tw2205 (p := 98) rfl
                                      have c2269 := sf_mg tw2205 (p := 31) rfl
                                      have c2270 := sf_mg tw2205 (p := 32) rfl
                                      have c2271 := sf_mg tw2205 (p := 33) rfl
                                      have c2272 := sf_ma tw2205 (p := 96) rfl
                                      have c2273 := sf_ma tw2205 (p := 97) rfl
                                      refine sf_istore (L' := [(5, .inl (.int v2119)), (0, .inl (.ref 100000)), (1, .inl (.ref 0)), (2, .inl (.ref 71)), (3, .inl (.ref 130)), (4, .inl (.int x4))]) rfl ?_
                                      show kt_W_law_1428 N xs K _ _ _ _ _
                                      refine sf_iinc (L' := [(6, .inl (.int v2204)), (5, .inl (.int v2119)), (0, .inl (.ref 100000)), (1, .inl (.ref 0)), (2, .inl (.ref 71)), (3, .inl (.ref 130))]) (x := x4) sf_c8 rfl rfl (by omega) (fun v2274 ev2274 => ?_)
                                      refine sf_can (L' := [(0, .inl (.ref 100000)), (1, .inl (.ref 0)), (2, .inl (.ref 71)), (3, .inl (.ref 130)), (4, .inl (.int v2274))]) rfl ?_
                                      exact ih _ _ _ _ Iw2205 (by omega) (by omega) (by omega) (by omega) (by rw [c2207, c2122]; rw [c2208, c2123]; rw [c2209, c2124]; rw [c2210, c2125]; rw [c2211, c2126]; rw [c2212, c2127]; rw [c2213, c2128]; rw [c2214, c2129]; rw [c2215, c2130]; rw [c2216, c2131]; omega) (by rw [c2217, c2132]; rw [c2218, c2133]; rw [c2208, c2123]; first | exact f_1 | exact hJ) (by rw [c2219, c2134]; rw [c2220, c2135]; first | exact f_2 | exact hK2) (by rw [c2222, c2136]; rw [c2218, c2133]; rw [c2208, c2123]; first | exact f_3 | exact hQ2) (by rw [c2223, c2137]; rw [c2224, c2138]; rw [c2210, c2125]; first | exact f_4 | exact hQ6) (by rw [c2225, c2139]; rw [c2226, c2140]; rw [c2210, c2125]; first | exact f_5 | exact hQ7) (by rw [c2227, c2141]; rw [c2228, c2142]; rw [c2210, c2125]; first | exact f_6 | exact hQ8) (by rw [c2229, c2143]; rw [c2230, c2144]; rw [c2210, c2125]; first | exact f_7 | exact hQ9) (by rw [c2231, c2145]; rw [c2232, c2146]; rw [c2212, c2127]; first | exact f_8 | exact hQ14) (by rw [c2233, c2147]; rw [c2234, c2148]; rw [c2212, c2127]; first | exact f_9 | exact hQ15) (by rw [c2235, c2149]; rw [c2236, c2150]; rw [c2212, c2127]; first | exact f_10 | exact hQ16) (by rw [c2237, c2151]; rw [c2238, c2152]; rw [c2212, c2127]; first | exact f_11 | exact hQ17) (by rw [c2239, c2153]; rw [c2240, c2154]; rw [c2212, c2127]; first | exact f_12 | exact hQ18) (by rw [c2241, c2155]; rw [c2242, c2156]; rw [c2212, c2127]; first | exact f_13 | exact hQ19) (by rw [c2243, c2157]; rw [c2244, c2158]; rw [c2212, c2127]; first | exact f_14 | exact hQ20) (by rw [c2245, c2159]; rw [c2246, c2160]; rw [c2214, c2129]; first | exact f_15 | exact hQ24) (by rw [c2247, c2161]; rw [c2248, c2162]; rw [c2214, c2129]; first | exact f_16 | exact hQ25) (by rw [c2249, c2163]; rw [c2250, c2164]; rw [c2214, c2129]; first | exact f_17 | exact hQ23) (by rw [c2251, c2165]; rw [c2252, c2166]; rw [c2214, c2129]; first | exact f_18 | exact hQ26) (by rw [c2253, c2167]; rw [c2254, c2168]; rw [c2214, c2129]; first | exact f_19 | exact hQ27) (by rw [c2255, c2169]; rw [c2256, c2170]; rw [c2216, c2131]; first | exact f_20 | exact hQ36) (by rw [c2257, c2171]; rw [c2258, c2172]; rw [c2216, c2131]; first | exact f_21 | exact hQ37) (by rw [c2259, c2173]; rw [c2260, c2174]; rw [c2261, c2175]; rw [c2262, c2176]; exact f_22) (by rw [c2263, c2177]; rw [c2264, c2178]; rw [c2265, c2179]; rw [c2266, c2180]; exact f_23) (by rw [c2267, c2181]; rw [c2268, c2182]; exact f_24) (by rw [c2269, c2183]; rw [c2262, c2176]; rw [c2270, c2184]; rw [c2272, c2186]; rw [c2271, c2185]; rw [c2273, c2187]; rw [c2261, c2175]; exact f_25) (by omega)
                                    · refine sf_iconst sf_c1 (fun z2275 ez2275 => ?_)
                                      show kt_W_law_975 N xs K _ _ _ _ _
                                      refine sf_callv8 rfl (by omega) (by omega) ?_
                                      refine sf_rv Iw2120 rfl ?_
                                      refine sc_M_line Iw2120 (by omega) (by omega) (fun v2276 w2277 Iw2277 tw2277 lv2276 uv2276 => ?_)
                                      have c2279 := sf_mf tw2277 (p := 1) (j := 0) rfl
                                      have c2280 := sf_mf tw2277 (p := 71) (j := 1) rfl
                                      have c2281 := sf_mf tw2277 (p := 1) (j := 5) rfl
                                      have c2282 := sf_mf tw2277 (p := 71) (j := 5) rfl
                                      have c2283 := sf_mf tw2277 (p := 13) (j := 1) rfl
                                      have c2284 := sf_mf tw2277 (p := 71) (j := 10) rfl
                                      have c2285 := sf_mf tw2277 (p := 21) (j := 1) rfl
                                      have c2286 := sf_mf tw2277 (p := 71) (j := 18) rfl
                                      have c2287 := sf_mf tw2277 (p := 35) (j := 0) rfl
                                      have c2288 := sf_mf tw2277 (p := 71) (j := 35) rfl
                                      have c2289 := sf_ma tw2277 (p := 3) rfl
                                      have c2290 := sf_ma tw2277 (p := 72) rfl
                                      have c2291 := sf_mg tw2277 (p := 10) rfl
                                      have c2292 := sf_ma tw2277 (p := 93) rfl
                                      have c2293 := sf_mL tw2277 (p := 130) rfl
                                      have c2294 := sf_ma tw2277 (p := 2) rfl
                                      have c2295 := sf_ma tw2277 (p := 6) rfl
                                      have c2296 := sf_ma tw2277 (p := 75) rfl
                                      have c2297 := sf_ma tw2277 (p := 7) rfl
                                      have c2298 := sf_ma tw2277 (p := 76) rfl
                                      have c2299 := sf_ma tw2277 (p := 8) rfl
                                      have c2300 := sf_ma tw2277 (p := 77) rfl
                                      have c2301 := sf_ma tw2277 (p := 9) rfl
                                      have c2302 := sf_ma tw2277 (p := 78) rfl
                                      have c2303 := sf_ma tw2277 (p := 14) rfl
                                      have c2304 := sf_ma tw2277 (p := 79) rfl
                                      have c2305 := sf_ma tw2277 (p := 15) rfl
                                      have c2306 := sf_ma tw2277 (p := 80) rfl
                                      have c2307 := sf_ma tw2277 (p := 16) rfl
                                      have c2308 := sf_ma tw2277 (p := 81) rfl
                                      have c2309 := sf_ma tw2277 (p := 17) rfl
                                      have c2310 := sf_ma tw2277 (p := 82) rfl
                                      have c2311 := sf_ma tw2277 (p := 18) rfl
                                      have c2312 := sf_ma tw2277 (p := 83) rfl
                                      have c2313 := sf_ma tw2277 (p := 19) rfl
                                      have c2314 := sf_ma tw2277 (p := 84) rfl
                                      have c2315 := sf_ma tw2277 (p := 20) rfl
                                      have c2316 := sf_ma tw2277 (p := 85) rfl
                                      have c2317 := sf_ma tw2277 (p := 24) rfl
                                      have c2318 := sf_ma tw2277 (p := 86) rfl
                                      have c2319 := sf_ma tw2277 (p := 25) rfl
                                      have c2320 := sf_ma tw2277 (p := 87) rfl
                                      have c2321 := sf_ma tw2277 (p := 23) rfl
                                      have c2322 := sf_ma tw2277 (p := 88) rfl
                                      have c2323 := sf_ma tw2277 (p := 26) rfl
                                      have c2324 := sf_ma tw2277 (p := 89) rfl
                                      have c2325 := sf_ma tw2277 (p := 27) rfl
                                      have c2326 := sf_ma tw2277 (p := 90) rfl
                                      have c2327 := sf_ma tw2277 (p := 36) rfl
                                      have c2328 := sf_ma tw2277 (p := 102) rfl
                                      have c2329 := sf_ma tw2277 (p := 37) rfl
                                      have c2330 := sf_ma tw2277 (p := 103) rfl
                                      have c2331 := sf_ma tw2277 (p := 34) rfl
                                      have c2332 := sf_ma tw2277 (p := 30) rfl
                                      have c2333 := sf_ma tw2277 (p := 94) rfl
                                      have c2334 := sf_ma tw2277 (p := 95) rfl
                                      have c2335 := sf_ma tw2277 (p := 4) rfl
                                      have c2336 := sf_ma tw2277 (p := 73) rfl
                                      have c2337 := sf_ma tw2277 (p := 5) rfl
                                      have c2338 := sf_ma tw2277 (p := 74) rfl
                                      have c2339 := sf_ma tw2277 (p := 29) rfl
                                      have c2340 := sf_ma tw2277 (p := 98) rfl
                                      have c2341 := sf_mg tw2277 (p := 31) rfl
                                      have c2342 := sf_mg tw2277 (p := 32) rfl
                                      have c2343 := sf_mg tw2277 (p := 33) rfl
                                      have c2344 := sf_ma tw2277 (p := 96) rfl
                                      have c2345 := sf_ma tw2277 (p := 97) rfl
                                      refine sf_istore (L' := [(5, .inl (.int v2119)), (0, .inl (.ref 100000)), (1, .inl (.ref 0)), (2, .inl (.ref 71)), (3, .inl (.ref 130)), (4, .inl (.int x4))]) rfl ?_
                                      show kt_W_law_1428 N xs K _ _ _ _ _
                                      refine sf_iinc (L' := [(6, .inl (.int v2276)), (5, .inl (.int v2119)), (0, .inl (.ref 100000)), (1, .inl (.ref 0)), (2, .inl (.ref 71)), (3, .inl (.ref 130))]) (x := x4) sf_c8 rfl rfl (by omega) (fun v2346 ev2346 => ?_)
                                      refine sf_can (L' := [(0, .inl (.ref 100000)), (1, .inl (.ref 0)), (2, .inl (.ref 71)), (3, .inl (.ref 130)), (4, .inl (.int v2346))]) rfl ?_
                                      exact ih _ _ _ _ Iw2277 (by omega) (by omega) (by omega) (by omega) (by rw [c2279, c2122]; rw [c2280, c2123]; rw [c2281, c2124]; rw [c2282, c2125]; rw [c2283, c2126]; rw [c2284, c2127]; rw [c2285, c2128]; rw [c2286, c2129]; rw [c2287, c2130]; rw [c2288, c2131]; omega) (by rw [c2289, c2132]; rw [c2290, c2133]; rw [c2280, c2123]; first | exact f_1 | exact hJ) (by rw [c2291, c2134]; rw [c2292, c2135]; first | exact f_2 | exact hK2) (by rw [c2294, c2136]; rw [c2290, c2133]; rw [c2280, c2123]; first | exact f_3 | exact hQ2) (by rw [c2295, c2137]; rw [c2296, c2138]; rw [c2282, c2125]; first | exact f_4 | exact hQ6) (by rw [c2297, c2139]; rw [c2298, c2140]; rw [c2282, c2125]; first | exact f_5 | exact hQ7) (by rw [c2299, c2141]; rw [c2300, c2142]; rw [c2282, c2125]; first | exact f_6 | exact hQ8) (by rw [c2301, c2143]; rw [c2302, c2144]; rw [c2282, c2125]; first | exact f_7 | exact hQ9) (by rw [c2303, c2145]; rw [c2304, c2146]; rw [c2284, c2127]; first | exact f_8 | exact hQ14) (by rw [c2305, c2147]; rw [c2306, c2148]; rw [c2284, c2127]; first | exact f_9 | exact hQ15) (by rw [c2307, c2149]; rw [c2308, c2150]; rw [c2284, c2127]; first | exact f_10 | exact hQ16) (by rw [c2309, c2151]; rw [c2310, c2152]; rw [c2284, c2127]; first | exact f_11 | exact hQ17) (by rw [c2311, c2153]; rw [c2312, c2154]; rw [c2284, c2127]; first | exact f_12 | exact hQ18) (by rw [c2313, c2155]; rw [c2314, c2156]; rw [c2284, c2127]; first | exact f_13 | exact hQ19) (by rw [c2315, c2157]; rw [c2316, c2158]; rw [c2284, c2127]; first | exact f_14 | exact hQ20) (by rw [c2317, c2159]; rw [c2318, c2160]; rw [c2286, c2129]; first | exact f_15 | exact hQ24) (by rw [c2319, c2161]; rw [c2320, c2162]; rw [c2286, c2129]; first | exact f_16 | exact hQ25) (by rw [c2321, c2163]; rw [c2322, c2164]; rw [c2286, c2129]; first | exact f_17 | exact hQ23) (by rw [c2323, c2165]; rw [c2324, c2166]; rw [c2286, c2129]; first | exact f_18 | exact hQ26) (by rw [c2325, c2167]; rw [c2326, c2168]; rw [c2286, c2129]; first | exact f_19 | exact hQ27) (by rw [c2327, c2169]; rw [c2328, c2170]; rw [c2288, c2131]; first | exact f_20 | exact hQ36) (by rw [c2329, c2171]; rw [c2330, c2172]; rw [c2288, c2131]; first | exact f_21 | exact hQ37) (by rw [c2331, c2173]; rw [c2332, c2174]; rw [c2333, c2175]; rw [c2334, c2176]; exact f_22) (by rw [c2335, c2177]; rw [c2336, c2178]; rw [c2337, c2179]; rw [c2338, c2180]; exact f_23) (by rw [c2339, c2181]; rw [c2340, c2182]; exact f_24) (by rw [c2341, c2183]; rw [c2334, c2176]; rw [c2342, c2184]; rw [c2344, c2186]; rw [c2343, c2185]; rw [c2345, c2187]; rw [c2333, c2175]; exact f_25) (by omega)
                                · clear h1945
                                  refine sf_sw1 sf_c14 (fun h2347 => ?_) (fun h2347 => ?_)
                                  · refine sf_aload rfl ?_
                                    refine sf_aload rfl ?_
                                    refine sf_iload rfl ?_
                                    refine sf_iconst sf_c1 (fun z2348 ez2348 => ?_)
                                    refine sf_iadd (by omega) (fun v2349 ev2349 => ?_)
                                    refine sf_sldk (x := x4) (k := 1) (by omega) (by omega) (by omega) ?_
                                    clear ev2349 ez2348
                                    refine sf_aload rfl ?_
                                    refine sf_iload rfl ?_
                                    refine sf_iconst sf_c2 (fun z2350 ez2350 => ?_)
                                    refine sf_iadd (by omega) (fun v2351 ev2351 => ?_)
                                    refine sf_sldk (x := x4) (k := 2) (by omega) (by omega) (by omega) ?_
                                    clear ev2351 ez2350
                                    refine sf_aload rfl ?_
                                    refine sf_iload rfl ?_
                                    refine sf_iconst sf_c3 (fun z2352 ez2352 => ?_)
                                    refine sf_iadd (by omega) (fun v2353 ev2353 => ?_)
                                    refine sf_sldk (x := x4) (k := 3) (by omega) (by omega) (by omega) ?_
                                    clear ev2353 ez2352
                                    refine sf_callv4 rfl (by omega) (by omega) ?_
                                    refine sc_W_charge_0 I_w  (fun v2354 w2355 Iw2355 tw2355 lv2354 uv2354 => ?_)
                                    have c2357 := sf_mf tw2355 (p := 1) (j := 0) rfl
                                    have c2358 := sf_mf tw2355 (p := 71) (j := 1) rfl
                                    have c2359 := sf_mf tw2355 (p := 1) (j := 5) rfl
                                    have c2360 := sf_mf tw2355 (p := 71) (j := 5) rfl
                                    have c2361 := sf_mf tw2355 (p := 13) (j := 1) rfl
                                    have c2362 := sf_mf tw2355 (p := 71) (j := 10) rfl
                                    have c2363 := sf_mf tw2355 (p := 21) (j := 1) rfl
                                    have c2364 := sf_mf tw2355 (p := 71) (j := 18) rfl
                                    have c2365 := sf_mf tw2355 (p := 35) (j := 0) rfl
                                    have c2366 := sf_mf tw2355 (p := 71) (j := 35) rfl
                                    have c2367 := sf_ma tw2355 (p := 3) rfl
                                    have c2368 := sf_ma tw2355 (p := 72) rfl
                                    have c2369 := sf_mg tw2355 (p := 10) rfl
                                    have c2370 := sf_ma tw2355 (p := 93) rfl
                                    have c2371 := sf_mL tw2355 (p := 130) rfl
                                    have c2372 := sf_ma tw2355 (p := 2) rfl
                                    have c2373 := sf_ma tw2355 (p := 6) rfl
                                    have c2374 := sf_ma tw2355 (p := 75) rfl
                                    have c2375 := sf_ma tw2355 (p := 7) rfl
                                    have c2376 := sf_ma tw2355 (p := 76) rfl
                                    have c2377 := sf_ma tw2355 (p := 8) rfl
                                    have c2378 := sf_ma tw2355 (p := 77) rfl
                                    have c2379 := sf_ma tw2355 (p := 9) rfl
                                    have c2380 := sf_ma tw2355 (p := 78) rfl
                                    have c2381 := sf_ma tw2355 (p := 14) rfl
                                    have c2382 := sf_ma tw2355 (p := 79) rfl
                                    have c2383 := sf_ma tw2355 (p := 15) rfl
                                    have c2384 := sf_ma tw2355 (p := 80) rfl
                                    have c2385 := sf_ma tw2355 (p := 16) rfl
                                    have c2386 := sf_ma tw2355 (p := 81) rfl
                                    have c2387 := sf_ma tw2355 (p := 17) rfl
                                    have c2388 := sf_ma tw2355 (p := 82) rfl
                                    have c2389 := sf_ma tw2355 (p := 18) rfl
                                    have c2390 := sf_ma tw2355 (p := 83) rfl
                                    have c2391 := sf_ma tw2355 (p := 19) rfl
                                    have c2392 := sf_ma tw2355 (p := 84) rfl
                                    have c2393 := sf_ma tw2355 (p := 20) rfl
                                    have c2394 := sf_ma tw2355 (p := 85) rfl
                                    have c2395 := sf_ma tw2355 (p := 24) rfl
                                    have c2396 := sf_ma tw2355 (p := 86) rfl
                                    have c2397 := sf_ma tw2355 (p := 25) rfl
                                    have c2398 := sf_ma tw2355 (p := 87) rfl
                                    have c2399 := sf_ma tw2355 (p := 23) rfl
                                    have c2400 := sf_ma tw2355 (p := 88) rfl
                                    have c2401 := sf_ma tw2355 (p := 26) rfl
                                    have c2402 := sf_ma tw2355 (p := 89) rfl
                                    have c2403 := sf_ma tw2355 (p := 27) rfl
                                    have c2404 := sf_ma tw2355 (p := 90) rfl
                                    have c2405 := sf_ma tw2355 (p := 36) rfl
                                    have c2406 := sf_ma tw2355 (p := 102) rfl
                                    have c2407 := sf_ma tw2355 (p := 37) rfl
                                    have c2408 := sf_ma tw2355 (p := 103) rfl
                                    have c2409 := sf_ma tw2355 (p := 34) rfl
                                    have c2410 := sf_ma tw2355 (p := 30) rfl
                                    have c2411 := sf_ma tw2355 (p := 94) rfl
                                    have c2412 := sf_ma tw2355 (p := 95) rfl
                                    have c2413 := sf_ma tw2355 (p := 4) rfl
                                    have c2414 := sf_ma tw2355 (p := 73) rfl
                                    have c2415 := sf_ma tw2355 (p := 5) rfl
                                    have c2416 := sf_ma tw2355 (p := 74) rfl
                                    have c2417 := sf_ma tw2355 (p := 29) rfl
                                    have c2418 := sf_ma tw2355 (p := 98) rfl
                                    have c2419 := sf_mg tw2355 (p := 31) rfl
                                    have c2420 := sf_mg tw2355 (p := 32) rfl
                                    have c2421 := sf_mg tw2355 (p := 33) rfl
                                    have c2422 := sf_ma tw2355 (p := 96) rfl
                                    have c2423 := sf_ma tw2355 (p := 97) rfl
                                    refine sf_istore (L' := [(0, .inl (.ref 100000)), (1, .inl (.ref 0)), (2, .inl (.ref 71)), (3, .inl (.ref 130)), (4, .inl (.int x4))]) rfl ?_
                                    refine sf_aload rfl ?_
                                    refine sf_aload rfl ?_
                                    refine sf_iload rfl ?_
                                    refine sf_iconst sf_c1 (fun z2424 ez2424 => ?_)
                                    refine sf_iadd (by omega) (fun v2425 ev2425 => ?_)
                                    refine sf_sldk (x := x4) (k := 1) (by omega) (by omega) (by omega) ?_
                                    clear ev2425 ez2424
                                    refine sf_aload rfl ?_
                                    refine sf_iload rfl ?_
                                    refine sf_iconst sf_c2 (fun z2426 ez2426 => ?_)
                                    refine sf_iadd (by omega) (fun v2427 ev2427 => ?_)
                                    refine sf_sldk (x := x4) (k := 2) (by omega) (by omega) (by omega) ?_
                                    clear ev2427 ez2426
                                    refine sf_aload rfl ?_
                                    refine sf_iload rfl ?_
                                    refine sf_iconst sf_c3 (fun z2428 ez2428 => ?_)
                                    refine sf_iadd (by omega) (fun v2429 ev2429 => ?_)
                                    refine sf_sldk (x := x4) (k := 3) (by omega) (by omega) (by omega) ?_
                                    clear ev2429 ez2428
                                    refine sf_callv4 rfl (by omega) (by omega) ?_
                                    refine sf_rv Iw2355 rfl ?_
                                    refine sc_M_charge Iw2355  (fun w2430 Iw2430 tw2430 => ?_)
                                    have c2432 := sf_mf tw2430 (p := 1) (j := 0) rfl
                                    have c2433 := sf_mf tw2430 (p := 71) (j := 1) rfl
                                    have c2434 := sf_mf tw2430 (p := 1) (j := 5) rfl
                                    have c2435 := sf_mf tw2430 (p := 71) (j := 5) rfl
                                    have c2436 := sf_mf tw2430 (p := 13) (j := 1) rfl
                                    have c2437 := sf_mf tw2430 (p := 71) (j := 10) rfl
                                    have c2438 := sf_mf tw2430 (p := 21) (j := 1) rfl
                                    have c2439 := sf_mf tw2430 (p := 71) (j := 18) rfl
                                    have c2440 := sf_mf tw2430 (p := 35) (j := 0) rfl
                                    have c2441 := sf_mf tw2430 (p := 71) (j := 35) rfl
                                    have c2442 := sf_ma tw2430 (p := 3) rfl
                                    have c2443 := sf_ma tw2430 (p := 72) rfl
                                    have c2444 := sf_mg tw2430 (p := 10) rfl
                                    have c2445 := sf_ma tw2430 (p := 93) rfl
                                    have c2446 := sf_mL tw2430 (p := 130) rfl
                                    have c2447 := sf_ma tw2430 (p := 2) rfl
                                    have c2448 := sf_ma tw2430 (p := 6) rfl
                                    have c2449 := sf_ma tw2430 (p := 75) rfl
                                    have c2450 := sf_ma tw2430 (p := 7) rfl
                                    have c2451 := sf_ma tw2430 (p := 76) rfl
                                    have c2452 := sf_ma tw2430 (p := 8) rfl
                                    have c2453 := sf_ma tw2430 (p := 77) rfl
                                    have c2454 := sf_ma tw2430 (p := 9) rfl
                                    have c2455 := sf_ma tw2430 (p := 78) rfl
                                    have c2456 := sf_ma tw2430 (p := 14) rfl
                                    have c2457 := sf_ma tw2430 (p := 79) rfl
                                    have c2458 := sf_ma tw2430 (p := 15) rfl
                                    have c2459 := sf_ma tw2430 (p := 80) rfl
                                    have c2460 := sf_ma tw2430 (p := 16) rfl
                                    have c2461 := sf_ma tw2430 (p := 81) rfl
                                    have c2462 := sf_ma tw2430 (p := 17) rfl
                                    have c2463 := sf_ma tw2430 (p := 82) rfl
                                    have c2464 := sf_ma tw2430 (p := 18) rfl
                                    have c2465 := sf_ma tw2430 (p := 83) rfl
                                    have c2466 := sf_ma tw2430 (p := 19) rfl
                                    have c2467 := sf_ma tw2430 (p := 84) rfl
                                    have c2468 := sf_ma tw2430 (p := 20) rfl
                                    have c2469 := sf_ma tw2430 (p := 85) rfl
                                    have c2470 := sf_ma tw2430 (p := 24) rfl
                                    have c2471 := sf_ma tw2430 (p := 86) rfl
                                    have c2472 := sf_ma tw2430 (p := 25) rfl
                                    have c2473 := sf_ma tw2430 (p := 87) rfl
                                    have c2474 := sf_ma tw2430 (p := 23) rfl
                                    have c2475 := sf_ma tw2430 (p := 88) rfl
                                    have c2476 := sf_ma tw2430 (p := 26) rfl
                                    have c2477 := sf_ma tw2430 (p := 89) rfl
                                    have c2478 := sf_ma tw2430 (p := 27) rfl
                                    have c2479 := sf_ma tw2430 (p := 90) rfl
                                    have c2480 := sf_ma tw2430 (p := 36) rfl
                                    have c2481 := sf_ma tw2430 (p := 102) rfl
                                    have c2482 := sf_ma tw2430 (p := 37) rfl
                                    have c2483 := sf_ma tw2430 (p := 103) rfl
                                    have c2484 := sf_ma tw2430 (p := 34) rfl
                                    have c2485 := sf_ma tw2430 (p := 30) rfl
                                    have c2486 := sf_ma tw2430 (p := 94) rfl
                                    have c2487 := sf_ma tw2430 (p := 95) rfl
                                    have c2488 := sf_ma tw2430 (p := 4) rfl
                                    have c2489 := sf_ma tw2430 (p := 73) rfl
                                    have c2490 := sf_ma tw2430 (p := 5) rfl
                                    have c2491 := sf_ma tw2430 (p := 74) rfl
                                    have c2492 := sf_ma tw2430 (p := 29) rfl
                                    have c2493 := sf_ma tw2430 (p := 98) rfl
                                    have c2494 := sf_mg tw2430 (p := 31) rfl
                                    have c2495 := sf_mg tw2430 (p := 32) rfl
                                    have c2496 := sf_mg tw2430 (p := 33) rfl
                                    have c2497 := sf_ma tw2430 (p := 96) rfl
                                    have c2498 := sf_ma tw2430 (p := 97) rfl
                                    show kt_W_law_1428 N xs K _ _ _ _ _
                                    refine sf_iinc (L' := [(5, .inl (.int v2354)), (0, .inl (.ref 100000)), (1, .inl (.ref 0)), (2, .inl (.ref 71)), (3, .inl (.ref 130))]) (x := x4) sf_c8 rfl rfl (by omega) (fun v2499 ev2499 => ?_)
                                    refine sf_can (L' := [(0, .inl (.ref 100000)), (1, .inl (.ref 0)), (2, .inl (.ref 71)), (3, .inl (.ref 130)), (4, .inl (.int v2499))]) rfl ?_
                                    exact ih _ _ _ _ Iw2430 (by omega) (by omega) (by omega) (by omega) (by rw [c2432, c2357]; rw [c2433, c2358]; rw [c2434, c2359]; rw [c2435, c2360]; rw [c2436, c2361]; rw [c2437, c2362]; rw [c2438, c2363]; rw [c2439, c2364]; rw [c2440, c2365]; rw [c2441, c2366]; omega) (by rw [c2442, c2367]; rw [c2443, c2368]; rw [c2433, c2358]; first | exact f_1 | exact hJ) (by rw [c2444, c2369]; rw [c2445, c2370]; first | exact f_2 | exact hK2) (by rw [c2447, c2372]; rw [c2443, c2368]; rw [c2433, c2358]; first | exact f_3 | exact hQ2) (by rw [c2448, c2373]; rw [c2449, c2374]; rw [c2435, c2360]; first | exact f_4 | exact hQ6) (by rw [c2450, c2375]; rw [c2451, c2376]; rw [c2435, c2360]; first | exact f_5 | exact hQ7) (by rw [c2452, c2377]; rw [c2453, c2378]; rw [c2435, c2360]; first | exact f_6 | exact hQ8) (by rw [c2454, c2379]; rw [c2455, c2380]; rw [c2435, c2360]; first | exact f_7 | exact hQ9) (by rw [c2456, c2381]; rw [c2457, c2382]; rw [c2437, c2362]; first | exact f_8 | exact hQ14) (by rw [c2458, c2383]; rw [c2459, c2384]; rw [c2437, c2362]; first | exact f_9 | exact hQ15) (by rw [c2460, c2385]; rw [c2461, c2386]; rw [c2437, c2362]; first | exact f_10 | exact hQ16) (by rw [c2462, c2387]; rw [c2463, c2388]; rw [c2437, c2362]; first | exact f_11 | exact hQ17) (by rw [c2464, c2389]; rw [c2465, c2390]; rw [c2437, c2362]; first | exact f_12 | exact hQ18) (by rw [c2466, c2391]; rw [c2467, c2392]; rw [c2437, c2362]; first | exact f_13 | exact hQ19) (by rw [c2468, c2393]; rw [c2469, c2394]; rw [c2437, c2362]; first | exact f_14 | exact hQ20) (by rw [c2470, c2395]; rw [c2471, c2396]; rw [c2439, c2364]; first | exact f_15 | exact hQ24) (by rw [c2472, c2397]; rw [c2473, c2398]; rw [c2439, c2364]; first | exact f_16 | exact hQ25) (by rw [c2474, c2399]; rw [c2475, c2400]; rw [c2439, c2364]; first | exact f_17 | exact hQ23) (by rw [c2476, c2401]; rw [c2477, c2402]; rw [c2439, c2364]; first | exact f_18 | exact hQ26) (by rw [c2478, c2403]; rw [c2479, c2404]; rw [c2439, c2364]; first | exact f_19 | exact hQ27) (by rw [c2480, c2405]; rw [c2481, c2406]; rw [c2441, c2366]; first | exact f_20 | exact hQ36) (by rw [c2482, c2407]; rw [c2483, c2408]; rw [c2441, c2366]; first | exact f_21 | exact hQ37) (by rw [c2484, c2409]; rw [c2485, c2410]; rw [c2486, c2411]; rw [c2487, c2412]; exact f_22) (by rw [c2488, c2413]; rw [c2489, c2414]; rw [c2490, c2415]; rw [c2491, c2416]; exact f_23) (by rw [c2492, c2417]; rw [c2493, c2418]; exact f_24) (by rw [c2494, c2419]; rw [c2487, c2412]; rw [c2495, c2420]; rw [c2497, c2422]; rw [c2496, c2421]; rw [c2498, c2423]; rw [c2486, c2411]; exact f_25) (by omega)
                                  · clear h2347
                                    refine sf_sw1 sf_c15 (fun h2500 => ?_) (fun h2500 => ?_)
                                    · refine sf_aload rfl ?_
                                      refine sf_aload rfl ?_
                                      refine sf_iload rfl ?_
                                      refine sf_iconst sf_c1 (fun z2501 ez2501 => ?_)
                                      refine sf_iadd (by omega) (fun v2502 ev2502 => ?_)
                                      refine sf_sldk (x := x4) (k := 1) (by omega) (by omega) (by omega) ?_
                                      clear ev2502 ez2501
                                      refine sf_aload rfl ?_
                                      refine sf_iload rfl ?_
                                      refine sf_iconst sf_c2 (fun z2503 ez2503 => ?_)
                                      refine sf_iadd (by omega) (fun v2504 ev2504 => ?_)
                                      refine sf_sldk (x := x4) (k := 2) (by omega) (by omega) (by omega) ?_
                                      clear ev2504 ez2503
                                      refine sf_aload rfl ?_
                                      refine sf_iload rfl ?_
                                      refine sf_iconst sf_c3 (fun z2505 ez2505 => ?_)
                                      refine sf_iadd (by omega) (fun v2506 ev2506 => ?_)
                                      refine sf_sldk (x := x4) (k := 3) (by omega) (by omega) (by omega) ?_
                                      clear ev2506 ez2505
                                      refine sf_aload rfl ?_
                                      refine sf_callv5 rfl (by omega) (by omega) ?_
                                      refine sc_W_lineOf_0_130 I_w  (fun v2507 w2508 Iw2508 tw2508 lv2507 uv2507 => ?_)
                                      have c2510 := sf_mf tw2508 (p := 1) (j := 0) rfl
                                      have c2511 := sf_mf tw2508 (p := 71) (j := 1) rfl
                                      have c2512 := sf_mf tw2508 (p := 1) (j := 5) rfl
                                      have c2513 := sf_mf tw2508 (p := 71) (j := 5) rfl
                                      have c2514 := sf_mf tw2508 (p := 13) (j := 1) rfl
                                      have c2515 := sf_mf tw2508 (p := 71) (j := 10) rfl
                                      have c2516 := sf_mf tw2508 (p := 21) (j := 1) rfl
                                      have c2517 := sf_mf tw2508 (p := 71) (j := 18) rfl
                                      have c2518 := sf_mf tw2508 (p := 35) (j := 0) rfl
                                      have c2519 := sf_mf tw2508 (p := 71) (j := 35) rfl
                                      have c2520 := sf_ma tw2508 (p := 3) rfl
                                      have c2521 := sf_ma tw2508 (p := 72) rfl
                                      have c2522 := sf_mg tw2508 (p := 10) rfl
                                      have c2523 := sf_ma tw2508 (p := 93) rfl
                                      have c2524 := sf_ma tw2508 (p := 2) rfl
                                      have c2525 := sf_ma tw2508 (p := 6) rfl
                                      have c2526 := sf_ma tw2508 (p := 75) rfl
                                      have c2527 := sf_ma tw2508 (p := 7) rfl
                                      have c2528 := sf_ma tw2508 (p := 76) rfl
                                      have c2529 := sf_ma tw2508 (p := 8) rfl
                                      have c2530 := sf_ma tw2508 (p := 77) rfl
                                      have c2531 := sf_ma tw2508 (p := 9) rfl
                                      have c2532 := sf_ma tw2508 (p := 78) rfl
                                      have c2533 := sf_ma tw2508 (p := 14) rfl
                                      have c2534 := sf_ma tw2508 (p := 79) rfl
                                      have c2535 := sf_ma tw2508 (p := 15) rfl
                                      have c2536 := sf_ma tw2508 (p := 80) rfl
                                      have c2537 := sf_ma tw2508 (p := 16) rfl
                                      have c2538 := sf_ma tw2508 (p := 81) rfl
                                      have c2539 := sf_ma tw2508 (p := 17) rfl
                                      have c2540 := sf_ma tw2508 (p := 82) rfl
                                      have c2541 := sf_ma tw2508 (p := 18) rfl
                                      have c2542 := sf_ma tw2508 (p := 83) rfl
                                      have c2543 := sf_ma tw2508 (p := 19) rfl
                                      have c2544 := sf_ma tw2508 (p := 84) rfl
                                      have c2545 := sf_ma tw2508 (p := 20) rfl
                                      have c2546 := sf_ma tw2508 (p := 85) rfl
                                      have c2547 := sf_ma tw2508 (p := 24) rfl
                                      have c2548 := sf_ma tw2508 (p := 86) rfl
                                      have c2549 := sf_ma tw2508 (p := 25) rfl
                                      have c2550 := sf_ma tw2508 (p := 87) rfl
                                      have c2551 := sf_ma tw2508 (p := 23) rfl
                                      have c2552 := sf_ma tw2508 (p := 88) rfl
                                      have c2553 := sf_ma tw2508 (p := 26) rfl
                                      have c2554 := sf_ma tw2508 (p := 89) rfl
                                      have c2555 := sf_ma tw2508 (p := 27) rfl
                                      have c2556 := sf_ma tw2508 (p := 90) rfl
                                      have c2557 := sf_ma tw2508 (p := 36) rfl
                                      have c2558 := sf_ma tw2508 (p := 102) rfl
                                      have c2559 := sf_ma tw2508 (p := 37) rfl
                                      have c2560 := sf_ma tw2508 (p := 103) rfl
                                      have c2561 := sf_ma tw2508 (p := 34) rfl
                                      have c2562 := sf_ma tw2508 (p := 30) rfl
                                      have c2563 := sf_ma tw2508 (p := 94) rfl
                                      have c2564 := sf_ma tw2508 (p := 95) rfl
                                      have c2565 := sf_ma tw2508 (p := 4) rfl
                                      have c2566 := sf_ma tw2508 (p := 73) rfl
                                      have c2567 := sf_ma tw2508 (p := 5) rfl
                                      have c2568 := sf_ma tw2508 (p := 74) rfl
                                      have c2569 := sf_ma tw2508 (p := 29) rfl
                                      have c2570 := sf_ma tw2508 (p := 98) rfl
                                      have c2571 := sf_mg tw2508 (p := 31) rfl
                                      have c2572 := sf_mg tw2508 (p := 32) rfl
                                      have c2573 := sf_mg tw2508 (p := 33) rfl
                                      have c2574 := sf_ma tw2508 (p := 96) rfl
                                      have c2575 := sf_ma tw2508 (p := 97) rfl
                                      refine sf_istore (L' := [(0, .inl (.ref 100000)), (1, .inl (.ref 0)), (2, .inl (.ref 71)), (3, .inl (.ref 130)), (4, .inl (.int x4))]) rfl ?_
                                      refine sf_aload rfl ?_
                                      refine sf_aload rfl ?_
                                      refine sf_iload rfl ?_
                                      refine sf_iconst sf_c1 (fun z2576 ez2576 => ?_)
                                      refine sf_iadd (by omega) (fun v2577 ev2577 => ?_)
                                      refine sf_sldk (x := x4) (k := 1) (by omega) (by omega) (by omega) ?_
                                      clear ev2577 ez2576
                                      refine sf_aload rfl ?_
                                      refine sf_iload rfl ?_
                                      refine sf_iconst sf_c2 (fun z2578 ez2578 => ?_)
                                      refine sf_iadd (by omega) (fun v2579 ev2579 => ?_)
                                      refine sf_sldk (x := x4) (k := 2) (by omega) (by omega) (by omega) ?_
                                      clear ev2579 ez2578
                                      refine sf_aload rfl ?_
                                      refine sf_iload rfl ?_
                                      refine sf_iconst sf_c3 (fun z2580 ez2580 => ?_)
                                      refine sf_iadd (by omega) (fun v2581 ev2581 => ?_)
                                      refine sf_sldk (x := x4) (k := 3) (by omega) (by omega) (by omega) ?_
                                      clear ev2581 ez2580
                                      refine sf_callv4 rfl (by omega) (by omega) ?_
                                      refine sf_rv Iw2508 rfl ?_
                                      refine sc_M_lineOf Iw2508  (fun v2582 w2583 Iw2583 tw2583 => ?_)
                                      have c2585 := sf_mf tw2583 (p := 1) (j := 0) rfl
                                      have c2586 := sf_mf tw2583 (p := 71) (j := 1) rfl
                                      have c2587 := sf_mf tw2583 (p := 1) (j := 5) rfl
                                      have c2588 := sf_mf tw2583 (p := 71) (j := 5) rfl
                                      have c2589 := sf_mf tw2583 (p := 13) (j := 1) rfl
                                      have c2590 := sf_mf tw2583 (p := 71) (j := 10) rfl
                                      have c2591 := sf_mf tw2583 (p := 21) (j := 1) rfl
                                      have c2592 := sf_mf tw2583 (p := 71) (j := 18) rfl
                                      have c2593 := sf_mf tw2583 (p := 35) (j := 0) rfl
                                      have c2594 := sf_mf tw2583 (p := 71) (j := 35) rfl
                                      have c2595 := sf_ma tw2583 (p := 3) rfl
                                      have c2596 := sf_ma tw2583 (p := 72) rfl
                                      have c2597 := sf_mg tw2583 (p := 10) rfl
                                      have c2598 := sf_ma tw2583 (p := 93) rfl
                                      have c2599 := sf_mL tw2583 (p := 130) rfl
                                      have c2600 := sf_ma tw2583 (p := 2) rfl
                                      have c2601 := sf_ma tw2583 (p := 6) rfl
                                      have c2602 := sf_ma tw2583 (p := 75) rfl
                                      have c2603 := sf_ma tw2583 (p := 7) rfl
                                      have c2604 := sf_ma tw2583 (p := 76) rfl
                                      have c2605 := sf_ma tw2583 (p := 8) rfl
                                      have c2606 := sf_ma tw2583 (p := 77) rfl
                                      have c2607 := sf_ma tw2583 (p := 9) rfl
                                      have c2608 := sf_ma tw2583 (p := 78) rfl
                                      have c2609 := sf_ma tw2583 (p := 14) rfl
                                      have c2610 := sf_ma tw2583 (p := 79) rfl
                                      have c2611 := sf_ma tw2583 (p := 15) rfl
                                      have c2612 := sf_ma tw2583 (p := 80) rfl
                                      have c2613 := sf_ma tw2583 (p := 16) rfl
                                      have c2614 := sf_ma tw2583 (p := 81) rfl
                                      have c2615 := sf_ma tw2583 (p := 17) rfl
                                      have c2616 := sf_ma tw2583 (p := 82) rfl
                                      have c2617 := sf_ma tw2583 (p := 18) rfl
                                      have c2618 := sf_ma tw2583 (p := 83) rfl
                                      have c2619 := sf_ma tw2583 (p := 19) rfl
                                      have c2620 := sf_ma tw2583 (p := 84) rfl
                                      have c2621 := sf_ma tw2583 (p := 20) rfl
                                      have c2622 := sf_ma tw2583 (p := 85) rfl
                                      have c2623 := sf_ma tw2583 (p := 24) rfl
                                      have c2624 := sf_ma tw2583 (p := 86) rfl
                                      have c2625 := sf_ma tw2583 (p := 25) rfl
                                      have c2626 := sf_ma tw2583 (p := 87) rfl
                                      have c2627 := sf_ma tw2583 (p := 23) rfl
                                      have c2628 := sf_ma tw2583 (p := 88) rfl
                                      have c2629 := sf_ma tw2583 (p := 26) rfl
                                      have c2630 := sf_ma tw2583 (p := 89) rfl
                                      have c2631 := sf_ma tw2583 (p := 27) rfl
                                      have c2632 := sf_ma tw2583 (p := 90) rfl
                                      have c2633 := sf_ma tw2583 (p := 36) rfl
                                      have c2634 := sf_ma tw2583 (p := 102) rfl
                                      have c2635 := sf_ma tw2583 (p := 37) rfl
                                      have c2636 := sf_ma tw2583 (p := 103) rfl
                                      have c2637 := sf_ma tw2583 (p := 34) rfl
                                      have c2638 := sf_ma tw2583 (p := 30) rfl
                                      have c2639 := sf_ma tw2583 (p := 94) rfl
                                      have c2640 := sf_ma tw2583 (p := 95) rfl
                                      have c2641 := sf_ma tw2583 (p := 4) rfl
                                      have c2642 := sf_ma tw2583 (p := 73) rfl
                                      have c2643 := sf_ma tw2583 (p := 5) rfl
                                      have c2644 := sf_ma tw2583 (p := 74) rfl
                                      have c2645 := sf_ma tw2583 (p := 29) rfl
                                      have c2646 := sf_ma tw2583 (p := 98) rfl
                                      have c2647 := sf_mg tw2583 (p := 31) rfl
                                      have c2648 := sf_mg tw2583 (p := 32) rfl
                                      have c2649 := sf_mg tw2583 (p := 33) rfl
                                      have c2650 := sf_ma tw2583 (p := 96) rfl
                                      have c2651 := sf_ma tw2583 (p := 97) rfl
                                      refine sf_lstore (L' := [(5, .inl (.int v2507)), (0, .inl (.ref 100000)), (1, .inl (.ref 0)), (2, .inl (.ref 71)), (3, .inl (.ref 130)), (4, .inl (.int x4))]) rfl ?_
                                      show kt_W_law_1428 N xs K _ _ _ _ _
                                      refine sf_iinc (L' := [(6, .inl (.long v2582)), (5, .inl (.int v2507)), (0, .inl (.ref 100000)), (1, .inl (.ref 0)), (2, .inl (.ref 71)), (3, .inl (.ref 130))]) (x := x4) sf_c8 rfl rfl (by omega) (fun v2652 ev2652 => ?_)
                                      refine sf_can (L' := [(0, .inl (.ref 100000)), (1, .inl (.ref 0)), (2, .inl (.ref 71)), (3, .inl (.ref 130)), (4, .inl (.int v2652))]) rfl ?_
                                      exact ih _ _ _ _ Iw2583 (by omega) (by omega) (by omega) (by omega) (by rw [c2585, c2510]; rw [c2586, c2511]; rw [c2587, c2512]; rw [c2588, c2513]; rw [c2589, c2514]; rw [c2590, c2515]; rw [c2591, c2516]; rw [c2592, c2517]; rw [c2593, c2518]; rw [c2594, c2519]; omega) (by rw [c2595, c2520]; rw [c2596, c2521]; rw [c2586, c2511]; first | exact f_1 | exact hJ) (by rw [c2597, c2522]; rw [c2598, c2523]; first | exact f_2 | exact hK2) (by rw [c2600, c2524]; rw [c2596, c2521]; rw [c2586, c2511]; first | exact f_3 | exact hQ2) (by rw [c2601, c2525]; rw [c2602, c2526]; rw [c2588, c2513]; first | exact f_4 | exact hQ6) (by rw [c2603, c2527]; rw [c2604, c2528]; rw [c2588, c2513]; first | exact f_5 | exact hQ7) (by rw [c2605, c2529]; rw [c2606, c2530]; rw [c2588, c2513]; first | exact f_6 | exact hQ8) (by rw [c2607, c2531]; rw [c2608, c2532]; rw [c2588, c2513]; first | exact f_7 | exact hQ9) (by rw [c2609, c2533]; rw [c2610, c2534]; rw [c2590, c2515]; first | exact f_8 | exact hQ14) (by rw [c2611, c2535]; rw [c2612, c2536]; rw [c2590, c2515]; first | exact f_9 | exact hQ15) (by rw [c2613, c2537]; rw [c2614, c2538]; rw [c2590, c2515]; first | exact f_10 | exact hQ16) (by rw [c2615, c2539]; rw [c2616, c2540]; rw [c2590, c2515]; first | exact f_11 | exact hQ17) (by rw [c2617, c2541]; rw [c2618, c2542]; rw [c2590, c2515]; first | exact f_12 | exact hQ18) (by rw [c2619, c2543]; rw [c2620, c2544]; rw [c2590, c2515]; first | exact f_13 | exact hQ19) (by rw [c2621, c2545]; rw [c2622, c2546]; rw [c2590, c2515]; first | exact f_14 | exact hQ20) (by rw [c2623, c2547]; rw [c2624, c2548]; rw [c2592, c2517]; first | exact f_15 | exact hQ24) (by rw [c2625, c2549]; rw [c2626, c2550]; rw [c2592, c2517]; first | exact f_16 | exact hQ25) (by rw [c2627, c2551]; rw [c2628, c2552]; rw [c2592, c2517]; first | exact f_17 | exact hQ23) (by rw [c2629, c2553]; rw [c2630, c2554]; rw [c2592, c2517]; first | exact f_18 | exact hQ26) (by rw [c2631, c2555]; rw [c2632, c2556]; rw [c2592, c2517]; first | exact f_19 | exact hQ27) (by rw [c2633, c2557]; rw [c2634, c2558]; rw [c2594, c2519]; first | exact f_20 | exact hQ36) (by rw [c2635, c2559]; rw [c2636, c2560]; rw [c2594, c2519]; first | exact f_21 | exact hQ37) (by rw [c2637, c2561]; rw [c2638, c2562]; rw [c2639, c2563]; rw [c2640, c2564]; exact f_22) (by rw [c2641, c2565]; rw [c2642, c2566]; rw [c2643, c2567]; rw [c2644, c2568]; exact f_23) (by rw [c2645, c2569]; rw [c2646, c2570]; exact f_24) (by rw [c2647, c2571]; rw [c2640, c2564]; rw [c2648, c2572]; rw [c2650, c2574]; rw [c2649, c2573]; rw [c2651, c2575]; rw [c2639, c2563]; exact f_25) (by omega)
                                    · clear h2500
                                      refine sf_sw1 sf_c16 (fun h2653 => ?_) (fun h2653 => ?_)
                                      · refine sf_aload rfl ?_
                                        refine sf_aload rfl ?_
                                        refine sf_iload rfl ?_
                                        refine sf_iconst sf_c1 (fun z2654 ez2654 => ?_)
                                        refine sf_iadd (by omega) (fun v2655 ev2655 => ?_)
                                        refine sf_sldk (x := x4) (k := 1) (by omega) (by omega) (by omega) ?_
                                        clear ev2655 ez2654
                                        refine sf_aload rfl ?_
                                        refine sf_callv3 rfl (by omega) (by omega) ?_
                                        refine sc_W_accept_0_130 I_w  (fun v2656 w2657 Iw2657 tw2657 lv2656 uv2656 => ?_)
                                        have c2659 := sf_mf tw2657 (p := 1) (j := 0) rfl
                                        have c2660 := sf_mf tw2657 (p := 71) (j := 1) rfl
                                        have c2661 := sf_mf tw2657 (p := 1) (j := 5) rfl
                                        have c2662 := sf_mf tw2657 (p := 71) (j := 5) rfl
                                        have c2663 := sf_mf tw2657 (p := 13) (j := 1) rfl
                                        have c2664 := sf_mf tw2657 (p := 71) (j := 10) rfl
                                        have c2665 := sf_mf tw2657 (p := 21) (j := 1) rfl
                                        have c2666 := sf_mf tw2657 (p := 71) (j := 18) rfl
                                        have c2667 := sf_mf tw2657 (p := 35) (j := 0) rfl
                                        have c2668 := sf_mf tw2657 (p := 71) (j := 35) rfl
                                        have c2669 := sf_ma tw2657 (p := 3) rfl
                                        have c2670 := sf_ma tw2657 (p := 72) rfl
                                        have c2671 := sf_mg tw2657 (p := 10) rfl
                                        have c2672 := sf_ma tw2657 (p := 93) rfl
                                        have c2673 := sf_ma tw2657 (p := 2) rfl
                                        have c2674 := sf_ma tw2657 (p := 6) rfl
                                        have c2675 := sf_ma tw2657 (p := 75) rfl
                                        have c2676 := sf_ma tw2657 (p := 7) rfl
                                        have c2677 := sf_ma tw2657 (p := 76) rfl
                                        have c2678 := sf_ma tw2657 (p := 8) rfl
                                        have c2679 := sf_ma tw2657 (p := 77) rfl
                                        have c2680 := sf_ma tw2657 (p := 9) rfl
                                        have c2681 := sf_ma tw2657 (p := 78) rfl
                                        have c2682 := sf_ma tw2657 (p := 14) rfl
                                        have c2683 := sf_ma tw2657 (p := 79) rfl
                                        have c2684 := sf_ma tw2657 (p := 15) rfl
                                        have c2685 := sf_ma tw2657 (p := 80) rfl
                                        have c2686 := sf_ma tw2657 (p := 16) rfl
                                        have c2687 := sf_ma tw2657 (p := 81) rfl
                                        have c2688 := sf_ma tw2657 (p := 17) rfl
                                        have c2689 := sf_ma tw2657 (p := 82) rfl
                                        have c2690 := sf_ma tw2657 (p := 18) rfl
                                        have c2691 := sf_ma tw2657 (p := 83) rfl
                                        have c2692 := sf_ma tw2657 (p := 19) rfl
                                        have c2693 := sf_ma tw2657 (p := 84) rfl
                                        have c2694 := sf_ma tw2657 (p := 20) rfl
                                        have c2695 := sf_ma tw2657 (p := 85) rfl
                                        have c2696 := sf_ma tw2657 (p := 24) rfl
                                        have c2697 := sf_ma tw2657 (p := 86) rfl
                                        have c2698 := sf_ma tw2657 (p := 25) rfl
                                        have c2699 := sf_ma tw2657 (p := 87) rfl
                                        have c2700 := sf_ma tw2657 (p := 23) rfl
                                        have c2701 := sf_ma tw2657 (p := 88) rfl
                                        have c2702 := sf_ma tw2657 (p := 26) rfl
                                        have c2703 := sf_ma tw2657 (p := 89) rfl
                                        have c2704 := sf_ma tw2657 (p := 27) rfl
                                        have c2705 := sf_ma tw2657 (p := 90) rfl
                                        have c2706 := sf_ma tw2657 (p := 36) rfl
                                        have c2707 := sf_ma tw2657 (p := 102) rfl
                                        have c2708 := sf_ma tw2657 (p := 37) rfl
                                        have c2709 := sf_ma tw2657 (p := 103) rfl
                                        have c2710 := sf_ma tw2657 (p := 34) rfl
                                        have c2711 := sf_ma tw2657 (p := 30) rfl
                                        have c2712 := sf_ma tw2657 (p := 94) rfl
                                        have c2713 := sf_ma tw2657 (p := 95) rfl
                                        have c2714 := sf_ma tw2657 (p := 4) rfl
                                        have c2715 := sf_ma tw2657 (p := 73) rfl
                                        have c2716 := sf_ma tw2657 (p := 5) rfl
                                        have c2717 := sf_ma tw2657 (p := 74) rfl
                                        have c2718 := sf_ma tw2657 (p := 29) rfl
                                        have c2719 := sf_ma tw2657 (p := 98) rfl
                                        have c2720 := sf_mg tw2657 (p := 31) rfl
                                        have c2721 := sf_mg tw2657 (p := 32) rfl
                                        have c2722 := sf_mg tw2657 (p := 33) rfl
                                        have c2723 := sf_ma tw2657 (p := 96) rfl
                                        have c2724 := sf_ma tw2657 (p := 97) rfl
                                        refine sf_istore (L' := [(0, .inl (.ref 100000)), (1, .inl (.ref 0)), (2, .inl (.ref 71)), (3, .inl (.ref 130)), (4, .inl (.int x4))]) rfl ?_
                                        refine sf_aload rfl ?_
                                        refine sf_aload rfl ?_
                                        refine sf_iload rfl ?_
                                        refine sf_iconst sf_c1 (fun z2725 ez2725 => ?_)
                                        refine sf_iadd (by omega) (fun v2726 ev2726 => ?_)
                                        refine sf_sldk (x := x4) (k := 1) (by omega) (by omega) (by omega) ?_
                                        clear ev2726 ez2725
                                        refine sf_callv2 rfl (by omega) (by omega) ?_
                                        refine sf_rv Iw2657 rfl ?_
                                        refine sc_M_accept Iw2657  (fun v2727 w2728 Iw2728 tw2728 => ?_)
                                        have c2730 := sf_mf tw2728 (p := 1) (j := 0) rfl
                                        have c2731 := sf_mf tw2728 (p := 71) (j := 1) rfl
                                        have c2732 := sf_mf tw2728 (p := 1) (j := 5) rfl
                                        have c2733 := sf_mf tw2728 (p := 71) (j := 5) rfl
                                        have c2734 := sf_mf tw2728 (p := 13) (j := 1) rfl
                                        have c2735 := sf_mf tw2728 (p := 71) (j := 10) rfl
                                        have c2736 := sf_mf tw2728 (p := 21) (j := 1) rfl
                                        have c2737 := sf_mf tw2728 (p := 71) (j := 18) rfl
                                        have c2738 := sf_mf tw2728 (p := 35) (j := 0) rfl
                                        have c2739 := sf_mf tw2728 (p := 71) (j := 35) rfl
                                        have c2740 := sf_ma tw2728 (p := 3) rfl
                                        have c2741 := sf_ma tw2728 (p := 72) rfl
                                        have c2742 := sf_mg tw2728 (p := 10) rfl
                                        have c2743 := sf_ma tw2728 (p := 93) rfl
                                        have c2744 := sf_mL tw2728 (p := 130) rfl
                                        have c2745 := sf_ma tw2728 (p := 2) rfl
                                        have c2746 := sf_ma tw2728 (p := 6) rfl
                                        have c2747 := sf_ma tw2728 (p := 75) rfl
                                        have c2748 := sf_ma tw2728 (p := 7) rfl
                                        have c2749 := sf_ma tw2728 (p := 76) rfl
                                        have c2750 := sf_ma tw2728 (p := 8) rfl
                                        have c2751 := sf_ma tw2728 (p := 77) rfl
                                        have c2752 := sf_ma tw2728 (p := 9) rfl
                                        have c2753 := sf_ma tw2728 (p := 78) rfl
                                        have c2754 := sf_ma tw2728 (p := 14) rfl
                                        have c2755 := sf_ma tw2728 (p := 79) rfl
                                        have c2756 := sf_ma tw2728 (p := 15) rfl
                                        have c2757 := sf_ma tw2728 (p := 80) rfl
                                        have c2758 := sf_ma tw2728 (p := 16) rfl
                                        have c2759 := sf_ma tw2728 (p := 81) rfl
                                        have c2760 := sf_ma tw2728 (p := 17) rfl
                                        have c2761 := sf_ma tw2728 (p := 82) rfl
                                        have c2762 := sf_ma tw2728 (p := 18) rfl
                                        have c2763 := sf_ma tw2728 (p := 83) rfl
                                        have c2764 := sf_ma tw2728 (p := 19) rfl
                                        have c2765 := sf_ma tw2728 (p := 84) rfl
                                        have c2766 := sf_ma tw2728 (p := 20) rfl
                                        have c2767 := sf_ma tw2728 (p := 85) rfl
                                        have c2768 := sf_ma tw2728 (p := 24) rfl
                                        have c2769 := sf_ma tw2728 (p := 86) rfl
                                        have c2770 := sf_ma tw2728 (p := 25) rfl
                                        have c2771 := sf_ma tw2728 (p := 87) rfl
                                        have c2772 := sf_ma tw2728 (p := 23) rfl
                                        have c2773 := sf_ma tw2728 (p := 88) rfl
                                        have c2774 := sf_ma tw2728 (p := 26) rfl
                                        have c2775 := sf_ma tw2728 (p := 89) rfl
                                        have c2776 := sf_ma tw2728 (p := 27) rfl
                                        have c2777 := sf_ma tw2728 (p := 90) rfl
                                        have c2778 := sf_ma tw2728 (p := 36) rfl
                                        have c2779 := sf_ma tw2728 (p := 102) rfl
                                        have c2780 := sf_ma tw2728 (p := 37) rfl
                                        have c2781 := sf_ma tw2728 (p := 103) rfl
                                        have c2782 := sf_ma tw2728 (p := 34) rfl
                                        have c2783 := sf_ma tw2728 (p := 30) rfl
                                        have c2784 := sf_ma tw2728 (p := 94) rfl
                                        have c2785 := sf_ma tw2728 (p := 95) rfl
                                        have c2786 := sf_ma tw2728 (p := 4) rfl
                                        have c2787 := sf_ma tw2728 (p := 73) rfl
                                        have c2788 := sf_ma tw2728 (p := 5) rfl
                                        have c2789 := sf_ma tw2728 (p := 74) rfl
                                        have c2790 := sf_ma tw2728 (p := 29) rfl
                                        have c2791 := sf_ma tw2728 (p := 98) rfl
                                        have c2792 := sf_mg tw2728 (p := 31) rfl
                                        have c2793 := sf_mg tw2728 (p := 32) rfl
                                        have c2794 := sf_mg tw2728 (p := 33) rfl
                                        have c2795 := sf_ma tw2728 (p := 96) rfl
                                        have c2796 := sf_ma tw2728 (p := 97) rfl
                                        refine sf_lstore (L' := [(5, .inl (.int v2656)), (0, .inl (.ref 100000)), (1, .inl (.ref 0)), (2, .inl (.ref 71)), (3, .inl (.ref 130)), (4, .inl (.int x4))]) rfl ?_
                                        show kt_W_law_1428 N xs K _ _ _ _ _
                                        refine sf_iinc (L' := [(6, .inl (.long v2727)), (5, .inl (.int v2656)), (0, .inl (.ref 100000)), (1, .inl (.ref 0)), (2, .inl (.ref 71)), (3, .inl (.ref 130))]) (x := x4) sf_c8 rfl rfl (by omega) (fun v2797 ev2797 => ?_)
                                        refine sf_can (L' := [(0, .inl (.ref 100000)), (1, .inl (.ref 0)), (2, .inl (.ref 71)), (3, .inl (.ref 130)), (4, .inl (.int v2797))]) rfl ?_
                                        exact ih _ _ _ _ Iw2728 (by omega) (by omega) (by omega) (by omega) (by rw [c2730, c2659]; rw [c2731, c2660]; rw [c2732, c2661]; rw [c2733, c2662]; rw [c2734, c2663]; rw [c2735, c2664]; rw [c2736, c2665]; rw [c2737, c2666]; rw [c2738, c2667]; rw [c2739, c2668]; omega) (by rw [c2740, c2669]; rw [c2741, c2670]; rw [c2731, c2660]; first | exact f_1 | exact hJ) (by rw [c2742, c2671]; rw [c2743, c2672]; first | exact f_2 | exact hK2) (by rw [c2745, c2673]; rw [c2741, c2670]; rw [c2731, c2660]; first | exact f_3 | exact hQ2) (by rw [c2746, c2674]; rw [c2747, c2675]; rw [c2733, c2662]; first | exact f_4 | exact hQ6) (by rw [c2748, c2676]; rw [c2749, c2677]; rw [c2733, c2662]; first | exact f_5 | exact hQ7) (by rw [c2750, c2678]; rw [c2751, c2679]; rw [c2733, c2662]; first | exact f_6 | exact hQ8) (by rw [c2752, c2680]; rw [c2753, c2681]; rw [c2733, c2662]; first | exact f_7 | exact hQ9) (by rw [c2754, c2682]; rw [c2755, c2683]; rw [c2735, c2664]; first | exact f_8 | exact hQ14) (by rw [c2756, c2684]; rw [c2757, c2685]; rw [c2735, c2664]; first | exact f_9 | exact hQ15) (by rw [c2758, c2686]; rw [c2759, c2687]; rw [c2735, c2664]; first | exact f_10 | exact hQ16) (by rw [c2760, c2688]; rw [c2761, c2689]; rw [c2735, c2664]; first | exact f_11 | exact hQ17) (by rw [c2762, c2690]; rw [c2763, c2691]; rw [c2735, c2664]; first | exact f_12 | exact hQ18) (by rw [c2764, c2692]; rw [c2765, c2693]; rw [c2735, c2664]; first | exact f_13 | exact hQ19) (by rw [c2766, c2694]; rw [c2767, c2695]; rw [c2735, c2664]; first | exact f_14 | exact hQ20) (by rw [c2768, c2696]; rw [c2769, c2697]; rw [c2737, c2666]; first | exact f_15 | exact hQ24) (by rw [c2770, c2698]; rw [c2771, c2699]; rw [c2737, c2666]; first | exact f_16 | exact hQ25) (by rw [c2772, c2700]; rw [c2773, c2701]; rw [c2737, c2666]; first | exact f_17 | exact hQ23) (by rw [c2774, c2702]; rw [c2775, c2703]; rw [c2737, c2666]; first | exact f_18 | exact hQ26) (by rw [c2776, c2704]; rw [c2777, c2705]; rw [c2737, c2666]; first | exact f_19 | exact hQ27) (by rw [c2778, c2706]; rw [c2779, c2707]; rw [c2739, c2668]; first | exact f_20 | exact hQ36) (by rw [c2780, c2708]; rw [c2781, c2709]; rw [c2739, c2668]; first | exact f_21 | exact hQ37) (by rw [c2782, c2710]; rw [c2783, c2711]; rw [c2784, c2712]; rw [c2785, c2713]; exact f_22) (by rw [c2786, c2714]; rw [c2787, c2715]; rw [c2788, c2716]; rw [c2789, c2717]; exact f_23) (by rw [c2790, c2718]; rw [c2791, c2719]; exact f_24) (by rw [c2792, c2720]; rw [c2785, c2713]; rw [c2793, c2721]; rw [c2795, c2723]; rw [c2794, c2722]; rw [c2796, c2724]; rw [c2784, c2712]; exact f_25) (by omega)
                                      · clear h2653
                                        refine sf_sw1 sf_c17 (fun h2798 => ?_) (fun h2798 => ?_)
                                        · refine sf_aload rfl ?_
                                          refine sf_aload rfl ?_
                                          refine sf_iload rfl ?_
                                          refine sf_iconst sf_c1 (fun z2799 ez2799 => ?_)
                                          refine sf_iadd (by omega) (fun v2800 ev2800 => ?_)
                                          refine sf_sldk (x := x4) (k := 1) (by omega) (by omega) (by omega) ?_
                                          clear ev2800 ez2799
                                          refine sf_aload rfl ?_
                                          refine sf_iload rfl ?_
                                          refine sf_iconst sf_c2 (fun z2801 ez2801 => ?_)
                                          refine sf_iadd (by omega) (fun v2802 ev2802 => ?_)
                                          refine sf_sldk (x := x4) (k := 2) (by omega) (by omega) (by omega) ?_
                                          clear ev2802 ez2801
                                          refine sf_aload rfl ?_
                                          refine sf_iload rfl ?_
                                          refine sf_iconst sf_c3 (fun z2803 ez2803 => ?_)
                                          refine sf_iadd (by omega) (fun v2804 ev2804 => ?_)
                                          refine sf_sldk (x := x4) (k := 3) (by omega) (by omega) (by omega) ?_
                                          clear ev2804 ez2803
                                          refine sf_aload rfl ?_
                                          refine sf_iload rfl ?_
                                          refine sf_iconst sf_c4 (fun z2805 ez2805 => ?_)
                                          refine sf_iadd (by omega) (fun v2806 ev2806 => ?_)
                                          refine sf_sldk (x := x4) (k := 4) (by omega) (by omega) (by omega) ?_
                                          clear ev2806 ez2805
                                          refine sf_aload rfl ?_
                                          refine sf_callv6 rfl (by omega) (by omega) ?_
                                          refine sc_W_amend_0_130 I_w  (fun v2807 w2808 Iw2808 tw2808 lv2807 uv2807 => ?_)
                                          have c2810 := sf_mf tw2808 (p := 1) (j := 0) rfl
                                          have c2811 := sf_mf tw2808 (p := 71) (j := 1) rfl
                                          have c2812 := sf_mf tw2808 (p := 1) (j := 5) rfl
                                          have c2813 := sf_mf tw2808 (p := 71) (j := 5) rfl
                                          have c2814 := sf_mf tw2808 (p := 13) (j := 1) rfl
                                          have c2815 := sf_mf tw2808 (p := 71) (j := 10) rfl
                                          have c2816 := sf_mf tw2808 (p := 21) (j := 1) rfl
                                          have c2817 := sf_mf tw2808 (p := 71) (j := 18) rfl
                                          have c2818 := sf_mf tw2808 (p := 35) (j := 0) rfl
                                          have c2819 := sf_mf tw2808 (p := 71) (j := 35) rfl
                                          have c2820 := sf_ma tw2808 (p := 3) rfl
                                          have c2821 := sf_ma tw2808 (p := 72) rfl
                                          have c2822 := sf_mg tw2808 (p := 10) rfl
                                          have c2823 := sf_ma tw2808 (p := 93) rfl
                                          have c2824 := sf_ma tw2808 (p := 2) rfl
                                          have c2825 := sf_ma tw2808 (p := 6) rfl
                                          have c2826 := sf_ma tw2808 (p := 75) rfl
                                          have c2827 := sf_ma tw2808 (p := 7) rfl
                                          have c2828 := sf_ma tw2808 (p := 76) rfl
                                          have c2829 := sf_ma tw2808 (p := 8) rfl
                                          have c2830 := sf_ma tw2808 (p := 77) rfl
                                          have c2831 := sf_ma tw2808 (p := 9) rfl
                                          have c2832 := sf_ma tw2808 (p := 78) rfl
                                          have c2833 := sf_ma tw2808 (p := 14) rfl
                                          have c2834 := sf_ma tw2808 (p := 79) rfl
                                          have c2835 := sf_ma tw2808 (p := 15) rfl
                                          have c2836 := sf_ma tw2808 (p := 80) rfl
                                          have c2837 := sf_ma tw2808 (p := 16) rfl
                                          have c2838 := sf_ma tw2808 (p := 81) rfl
                                          have c2839 := sf_ma tw2808 (p := 17) rfl
                                          have c2840 := sf_ma tw2808 (p := 82) rfl
                                          have c2841 := sf_ma tw2808 (p := 18) rfl
                                          have c2842 := sf_ma tw2808 (p := 83) rfl
                                          have c2843 := sf_ma tw2808 (p := 19) rfl
                                          have c2844 := sf_ma tw2808 (p := 84) rfl
                                          have c2845 := sf_ma tw2808 (p := 20) rfl
                                          have c2846 := sf_ma tw2808 (p := 85) rfl
                                          have c2847 := sf_ma tw2808 (p := 24) rfl
                                          have c2848 := sf_ma tw2808 (p := 86) rfl
                                          have c2849 := sf_ma tw2808 (p := 25) rfl
                                          have c2850 := sf_ma tw2808 (p := 87) rfl
                                          have c2851 := sf_ma tw2808 (p := 23) rfl
                                          have c2852 := sf_ma tw2808 (p := 88) rfl
                                          have c2853 := sf_ma tw2808 (p := 26) rfl
                                          have c2854 := sf_ma tw2808 (p := 89) rfl
                                          have c2855 := sf_ma tw2808 (p := 27) rfl
                                          have c2856 := sf_ma tw2808 (p := 90) rfl
                                          have c2857 := sf_ma tw2808 (p := 36) rfl
                                          have c2858 := sf_ma tw2808 (p := 102) rfl
                                          have c2859 := sf_ma tw2808 (p := 37) rfl
                                          have c2860 := sf_ma tw2808 (p := 103) rfl
                                          have c2861 := sf_ma tw2808 (p := 34) rfl
                                          have c2862 := sf_ma tw2808 (p := 30) rfl
                                          have c2863 := sf_ma tw2808 (p := 94) rfl
                                          have c2864 := sf_ma tw2808 (p := 95) rfl
                                          have c2865 := sf_ma tw2808 (p := 4) rfl
                                          have c2866 := sf_ma tw2808 (p := 73) rfl
                                          have c2867 := sf_ma tw2808 (p := 5) rfl
                                          have c2868 := sf_ma tw2808 (p := 74) rfl
                                          have c2869 := sf_ma tw2808 (p := 29) rfl
                                          have c2870 := sf_ma tw2808 (p := 98) rfl
                                          have c2871 := sf_mg tw2808 (p := 31) rfl
                                          have c2872 := sf_mg tw2808 (p := 32) rfl
                                          have c2873 := sf_mg tw2808 (p := 33) rfl
                                          have c2874 := sf_ma tw2808 (p := 96) rfl
                                          have c2875 := sf_ma tw2808 (p := 97) rfl
                                          refine sf_istore (L' := [(0, .inl (.ref 100000)), (1, .inl (.ref 0)), (2, .inl (.ref 71)), (3, .inl (.ref 130)), (4, .inl (.int x4))]) rfl ?_
                                          refine sf_aload rfl ?_
                                          refine sf_aload rfl ?_
                                          refine sf_iload rfl ?_
                                          refine sf_iconst sf_c1 (fun z2876 ez2876 => ?_)
                                          refine sf_iadd (by omega) (fun v2877 ev2877 => ?_)
                                          refine sf_sldk (x := x4) (k := 1) (by omega) (by omega) (by omega) ?_
                                          clear ev2877 ez2876
                                          refine sf_aload rfl ?_
                                          refine sf_iload rfl ?_
                                          refine sf_iconst sf_c2 (fun z2878 ez2878 => ?_)
                                          refine sf_iadd (by omega) (fun v2879 ev2879 => ?_)
                                          refine sf_sldk (x := x4) (k := 2) (by omega) (by omega) (by omega) ?_
                                          clear ev2879 ez2878
                                          refine sf_aload rfl ?_
                                          refine sf_iload rfl ?_
                                          refine sf_iconst sf_c3 (fun z2880 ez2880 => ?_)
                                          refine sf_iadd (by omega) (fun v2881 ev2881 => ?_)
                                          refine sf_sldk (x := x4) (k := 3) (by omega) (by omega) (by omega) ?_
                                          clear ev2881 ez2880
                                          refine sf_aload rfl ?_
                                          refine sf_iload rfl ?_
                                          refine sf_iconst sf_c4 (fun z2882 ez2882 => ?_)
                                          refine sf_iadd (by omega) (fun v2883 ev2883 => ?_)
                                          refine sf_sldk (x := x4) (k := 4) (by omega) (by omega) (by omega) ?_
                                          clear ev2883 ez2882
                                          refine sf_callv5 rfl (by omega) (by omega) ?_
                                          refine sf_rv Iw2808 rfl ?_
                                          refine sc_M_amend Iw2808  (fun v2884 w2885 Iw2885 tw2885 => ?_)
                                          have c2887 := sf_mf tw2885 (p := 1) (j := 0) rfl
                                          have c2888 := sf_mf tw2885 (p := 71) (j := 1) rfl
                                          have c2889 := sf_mf tw2885 (p := 1) (j := 5) rfl
                                          have c2890 := sf_mf tw2885 (p := 71) (j := 5) rfl
                                          have c2891 := sf_mf tw2885 (p := 13) (j := 1) rfl
                                          have c2892 := sf_mf tw2885 (p := 71) (j := 10) rfl
                                          have c2893 := sf_mf tw2885 (p := 21) (j := 1) rfl
                                          have c2894 := sf_mf tw2885 (p := 71) (j := 18) rfl
                                          have c2895 := sf_mf tw2885 (p := 35) (j := 0) rfl
                                          have c2896 := sf_mf tw2885 (p := 71) (j := 35) rfl
                                          have c2897 := sf_ma tw2885 (p := 3) rfl
                                          have c2898 := sf_ma tw2885 (p := 72) rfl
                                          have c2899 := sf_mg tw2885 (p := 10) rfl
                                          have c2900 := sf_ma tw2885 (p := 93) rfl
                                          have c2901 := sf_mL tw2885 (p := 130) rfl
                                          have c2902 := sf_ma tw2885 (p := 2) rfl
                                          have c2903 := sf_ma tw2885 (p := 6) rfl
                                          have c2904 := sf_ma tw2885 (p := 75) rfl
                                          have c2905 := sf_ma tw2885 (p := 7) rfl
                                          have c2906 := sf_ma tw2885 (p := 76) rfl
                                          have c2907 := sf_ma tw2885 (p := 8) rfl
                                          have c2908 := sf_ma tw2885 (p := 77) rfl
                                          have c2909 := sf_ma tw2885 (p := 9) rfl
                                          have c2910 := sf_ma tw2885 (p := 78) rfl
                                          have c2911 := sf_ma tw2885 (p := 14) rfl
                                          have c2912 := sf_ma tw2885 (p := 79) rfl
                                          have c2913 := sf_ma tw2885 (p := 15) rfl
                                          have c2914 := sf_ma tw2885 (p := 80) rfl
                                          have c2915 := sf_ma tw2885 (p := 16) rfl
                                          have c2916 := sf_ma tw2885 (p := 81) rfl
                                          have c2917 := sf_ma tw2885 (p := 17) rfl
                                          have c2918 := sf_ma tw2885 (p := 82) rfl
                                          have c2919 := sf_ma tw2885 (p := 18) rfl
                                          have c2920 := sf_ma tw2885 (p := 83) rfl
                                          have c2921 := sf_ma tw2885 (p := 19) rfl
                                          have c2922 := sf_ma tw2885 (p := 84) rfl
                                          have c2923 := sf_ma tw2885 (p := 20) rfl
                                          have c2924 := sf_ma tw2885 (p := 85) rfl
                                          have c2925 := sf_ma tw2885 (p := 24) rfl
                                          have c2926 := sf_ma tw2885 (p := 86) rfl
                                          have c2927 := sf_ma tw2885 (p := 25) rfl
                                          have c2928 := sf_ma tw2885 (p := 87) rfl
                                          have c2929 := sf_ma tw2885 (p := 23) rfl
                                          have c2930 := sf_ma tw2885 (p := 88) rfl
                                          have c2931 := sf_ma tw2885 (p := 26) rfl
                                          have c2932 := sf_ma tw2885 (p := 89) rfl
                                          have c2933 := sf_ma tw2885 (p := 27) rfl
                                          have c2934 := sf_ma tw2885 (p := 90) rfl
                                          have c2935 := sf_ma tw2885 (p := 36) rfl
                                          have c2936 := sf_ma tw2885 (p := 102) rfl
                                          have c2937 := sf_ma tw2885 (p := 37) rfl
                                          have c2938 := sf_ma tw2885 (p := 103) rfl
                                          have c2939 := sf_ma tw2885 (p := 34) rfl
                                          have c2940 := sf_ma tw2885 (p := 30) rfl
                                          have c2941 := sf_ma tw2885 (p := 94) rfl
                                          have c2942 := sf_ma tw2885 (p := 95) rfl
                                          have c2943 := sf_ma tw2885 (p := 4) rfl
                                          have c2944 := sf_ma tw2885 (p := 73) rfl
                                          have c2945 := sf_ma tw2885 (p := 5) rfl
                                          have c2946 := sf_ma tw2885 (p := 74) rfl
                                          have c2947 := sf_ma tw2885 (p := 29) rfl
                                          have c2948 := sf_ma tw2885 (p := 98) rfl
                                          have c2949 := sf_mg tw2885 (p := 31) rfl
                                          have c2950 := sf_mg tw2885 (p := 32) rfl
                                          have c2951 := sf_mg tw2885 (p := 33) rfl
                                          have c2952 := sf_ma tw2885 (p := 96) rfl
                                          have c2953 := sf_ma tw2885 (p := 97) rfl
                                          refine sf_lstore (L' := [(5, .inl (.int v2807)), (0, .inl (.ref 100000)), (1, .inl (.ref 0)), (2, .inl (.ref 71)), (3, .inl (.ref 130)), (4, .inl (.int x4))]) rfl ?_
                                          show kt_W_law_1428 N xs K _ _ _ _ _
                                          refine sf_iinc (L' := [(6, .inl (.long v2884)), (5, .inl (.int v2807)), (0, .inl (.ref 100000)), (1, .inl (.ref 0)), (2, .inl (.ref 71)), (3, .inl (.ref 130))]) (x := x4) sf_c8 rfl rfl (by omega) (fun v2954 ev2954 => ?_)
                                          refine sf_can (L' := [(0, .inl (.ref 100000)), (1, .inl (.ref 0)), (2, .inl (.ref 71)), (3, .inl (.ref 130)), (4, .inl (.int v2954))]) rfl ?_
                                          exact ih _ _ _ _ Iw2885 (by omega) (by omega) (by omega) (by omega) (by rw [c2887, c2810]; rw [c2888, c2811]; rw [c2889, c2812]; rw [c2890, c2813]; rw [c2891, c2814]; rw [c2892, c2815]; rw [c2893, c2816]; rw [c2894, c2817]; rw [c2895, c2818]; rw [c2896, c2819]; omega) (by rw [c2897, c2820]; rw [c2898, c2821]; rw [c2888, c2811]; first | exact f_1 | exact hJ) (by rw [c2899, c2822]; rw [c2900, c2823]; first | exact f_2 | exact hK2) (by rw [c2902, c2824]; rw [c2898, c2821]; rw [c2888, c2811]; first | exact f_3 | exact hQ2) (by rw [c2903, c2825]; rw [c2904, c2826]; rw [c2890, c2813]; first | exact f_4 | exact hQ6) (by rw [c2905, c2827]; rw [c2906, c2828]; rw [c2890, c2813]; first | exact f_5 | exact hQ7) (by rw [c2907, c2829]; rw [c2908, c2830]; rw [c2890, c2813]; first | exact f_6 | exact hQ8) (by rw [c2909, c2831]; rw [c2910, c2832]; rw [c2890, c2813]; first | exact f_7 | exact hQ9) (by rw [c2911, c2833]; rw [c2912, c2834]; rw [c2892, c2815]; first | exact f_8 | exact hQ14) (by rw [c2913, c2835]; rw [c2914, c2836]; rw [c2892, c2815]; first | exact f_9 | exact hQ15) (by rw [c2915, c2837]; rw [c2916, c2838]; rw [c2892, c2815]; first | exact f_10 | exact hQ16) (by rw [c2917, c2839]; rw [c2918, c2840]; rw [c2892, c2815]; first | exact f_11 | exact hQ17) (by rw [c2919, c2841]; rw [c2920, c2842]; rw [c2892, c2815]; first | exact f_12 | exact hQ18) (by rw [c2921, c2843]; rw [c2922, c2844]; rw [c2892, c2815]; first | exact f_13 | exact hQ19) (by rw [c2923, c2845]; rw [c2924, c2846]; rw [c2892, c2815]; first | exact f_14 | exact hQ20) (by rw [c2925, c2847]; rw [c2926, c2848]; rw [c2894, c2817]; first | exact f_15 | exact hQ24) (by rw [c2927, c2849]; rw [c2928, c2850]; rw [c2894, c2817]; first | exact f_16 | exact hQ25) (by rw [c2929, c2851]; rw [c2930, c2852]; rw [c2894, c2817]; first | exact f_17 | exact hQ23) (by rw [c2931, c2853]; rw [c2932, c2854]; rw [c2894, c2817]; first | exact f_18 | exact hQ26) (by rw [c2933, c2855]; rw [c2934, c2856]; rw [c2894, c2817]; first | exact f_19 | exact hQ27) (by rw [c2935, c2857]; rw [c2936, c2858]; rw [c2896, c2819]; first | exact f_20 | exact hQ36) (by rw [c2937, c2859]; rw [c2938, c2860]; rw [c2896, c2819]; first | exact f_21 | exact hQ37) (by rw [c2939, c2861]; rw [c2940, c2862]; rw [c2941, c2863]; rw [c2942, c2864]; exact f_22) (by rw [c2943, c2865]; rw [c2944, c2866]; rw [c2945, c2867]; rw [c2946, c2868]; exact f_23) (by rw [c2947, c2869]; rw [c2948, c2870]; exact f_24) (by rw [c2949, c2871]; rw [c2942, c2864]; rw [c2950, c2872]; rw [c2952, c2874]; rw [c2951, c2873]; rw [c2953, c2875]; rw [c2941, c2863]; exact f_25) (by omega)
                                        · clear h2798
                                          refine sf_sw1 sf_c18 (fun h2955 => ?_) (fun h2955 => ?_)
                                          · refine sf_aload rfl ?_
                                            refine sf_aload rfl ?_
                                            refine sf_iload rfl ?_
                                            refine sf_iconst sf_c1 (fun z2956 ez2956 => ?_)
                                            refine sf_iadd (by omega) (fun v2957 ev2957 => ?_)
                                            refine sf_sldk (x := x4) (k := 1) (by omega) (by omega) (by omega) ?_
                                            clear ev2957 ez2956
                                            refine sf_aload rfl ?_
                                            refine sf_iload rfl ?_
                                            refine sf_iconst sf_c2 (fun z2958 ez2958 => ?_)
                                            refine sf_iadd (by omega) (fun v2959 ev2959 => ?_)
                                            refine sf_sldk (x := x4) (k := 2) (by omega) (by omega) (by omega) ?_
                                            clear ev2959 ez2958
                                            refine sf_aload rfl ?_
                                            refine sf_callv4 rfl (by omega) (by omega) ?_
                                            refine sc_W_release_0_130 I_w  (fun v2960 w2961 Iw2961 tw2961 lv2960 uv2960 => ?_)
                                            have c2963 := sf_mf tw2961 (p := 1) (j := 0) rfl
                                            have c2964 := sf_mf tw2961 (p := 71) (j := 1) rfl
                                            have c2965 := sf_mf tw2961 (p := 1) (j := 5) rfl
                                            have c2966 := sf_mf tw2961 (p := 71) (j := 5) rfl
                                            have c2967 := sf_mf tw2961 (p := 13) (j := 1) rfl
                                            have c2968 := sf_mf tw2961 (p := 71) (j := 10) rfl
                                            have c2969 := sf_mf tw2961 (p := 21) (j := 1) rfl
                                            have c2970 := sf_mf tw2961 (p := 71) (j := 18) rfl
                                            have c2971 := sf_mf tw2961 (p := 35) (j := 0) rfl
                                            have c2972 := sf_mf tw2961 (p := 71) (j := 35) rfl
                                            have c2973 := sf_ma tw2961 (p := 3) rfl
                                            have c2974 := sf_ma tw2961 (p := 72) rfl
                                            have c2975 := sf_mg tw2961 (p := 10) rfl
                                            have c2976 := sf_ma tw2961 (p := 93) rfl
                                            have c2977 := sf_ma tw2961 (p := 2) rfl
                                            have c2978 := sf_ma tw2961 (p := 6) rfl
                                            have c2979 := sf_ma tw2961 (p := 75) rfl
                                            have c2980 := sf_ma tw2961 (p := 7) rfl
                                            have c2981 := sf_ma tw2961 (p := 76) rfl
                                            have c2982 := sf_ma tw2961 (p := 8) rfl
                                            have c2983 := sf_ma tw2961 (p := 77) rfl
                                            have c2984 := sf_ma tw2961 (p := 9) rfl
                                            have c2985 := sf_ma tw2961 (p := 78) rfl
                                            have c2986 := sf_ma tw2961 (p := 14) rfl
                                            have c2987 := sf_ma tw2961 (p := 79) rfl
                                            have c2988 := sf_ma tw2961 (p := 15) rfl
                                            have c2989 := sf_ma tw2961 (p := 80) rfl
                                            have c2990 := sf_ma tw2961 (p := 16) rfl
                                            have c2991 := sf_ma tw2961 (p := 81) rfl
                                            have c2992 := sf_ma tw2961 (p := 17) rfl
                                            have c2993 := sf_ma tw2961 (p := 82) rfl
                                            have c2994 := sf_ma tw2961 (p := 18) rfl
                                            have c2995 := sf_ma tw2961 (p := 83) rfl
                                            have c2996 := sf_ma tw2961 (p := 19) rfl
                                            have c2997 := sf_ma tw2961 (p := 84) rfl
                                            have c2998 := sf_ma tw2961 (p := 20) rfl
                                            have c2999 := sf_ma tw2961 (p := 85) rfl
                                            have c3000 := sf_ma tw2961 (p := 24) rfl
                                            have c3001 := sf_ma tw2961 (p := 86) rfl
                                            have c3002 := sf_ma tw2961 (p := 25) rfl
                                            have c3003 := sf_ma tw2961 (p := 87) rfl
                                            have c3004 := sf_ma tw2961 (p := 23) rfl
                                            have c3005 := sf_ma tw2961 (p := 88) rfl
                                            have c3006 := sf_ma tw2961 (p := 26) rfl
                                            have c3007 := sf_ma tw2961 (p := 89) rfl
                                            have c3008 := sf_ma tw2961 (p := 27) rfl
                                            have c3009 := sf_ma tw2961 (p := 90) rfl
                                            have c3010 := sf_ma tw2961 (p := 36) rfl
                                            have c3011 := sf_ma tw2961 (p := 102) rfl
                                            have c3012 := sf_ma tw2961 (p := 37) rfl
                                            have c3013 := sf_ma tw2961 (p := 103) rfl
                                            have c3014 := sf_ma tw2961 (p := 34) rfl
                                            have c3015 := sf_ma tw2961 (p := 30) rfl
                                            have c3016 := sf_ma tw2961 (p := 94) rfl
                                            have c3017 := sf_ma tw2961 (p := 95) rfl
                                            have c3018 := sf_ma tw2961 (p := 4) rfl
                                            have c3019 := sf_ma tw2961 (p := 73) rfl
                                            have c3020 := sf_ma tw2961 (p := 5) rfl
                                            have c3021 := sf_ma tw2961 (p := 74) rfl
                                            have c3022 := sf_ma tw2961 (p := 29) rfl
                                            have c3023 := sf_ma tw2961 (p := 98) rfl
                                            have c3024 := sf_mg tw2961 (p := 31) rfl
                                            have c3025 := sf_mg tw2961 (p := 32) rfl
                                            have c3026 := sf_mg tw2961 (p := 33) rfl
                                            have c3027 := sf_ma tw2961 (p := 96) rfl
                                            have c3028 := sf_ma tw2961 (p := 97) rfl
                                            refine sf_istore (L' := [(0, .inl (.ref 100000)), (1, .inl (.ref 0)), (2, .inl (.ref 71)), (3, .inl (.ref 130)), (4, .inl (.int x4))]) rfl ?_
                                            refine sf_aload rfl ?_
                                            refine sf_aload rfl ?_
                                            refine sf_iload rfl ?_
                                            refine sf_iconst sf_c1 (fun z3029 ez3029 => ?_)
                                            refine sf_iadd (by omega) (fun v3030 ev3030 => ?_)
                                            refine sf_sldk (x := x4) (k := 1) (by omega) (by omega) (by omega) ?_
                                            clear ev3030 ez3029
                                            refine sf_aload rfl ?_
                                            refine sf_iload rfl ?_
                                            refine sf_iconst sf_c2 (fun z3031 ez3031 => ?_)
                                            refine sf_iadd (by omega) (fun v3032 ev3032 => ?_)
                                            refine sf_sldk (x := x4) (k := 2) (by omega) (by omega) (by omega) ?_
                                            clear ev3032 ez3031
                                            refine sf_callv3 rfl (by omega) (by omega) ?_
                                            refine sf_rv Iw2961 rfl ?_
                                            refine sc_M_release Iw2961  (fun v3033 w3034 Iw3034 tw3034 => ?_)
                                            have c3036 := sf_mf tw3034 (p := 1) (j := 0) rfl
                                            have c3037 := sf_mf tw3034 (p := 71) (j := 1) rfl
                                            have c3038 := sf_mf tw3034 (p := 1) (j := 5) rfl
                                            have c3039 := sf_mf tw3034 (p := 71) (j := 5) rfl
                                            have c3040 := sf_mf tw3034 (p := 13) (j := 1) rfl
                                            have c3041 := sf_mf tw3034 (p := 71) (j := 10) rfl
                                            have c3042 := sf_mf tw3034 (p := 21) (j := 1) rfl
                                            have c3043 := sf_mf tw3034 (p := 71) (j := 18) rfl
                                            have c3044 := sf_mf tw3034 (p := 35) (j := 0) rfl
                                            have c3045 := sf_mf tw3034 (p := 71) (j := 35) rfl
                                            have c3046 := sf_ma tw3034 (p := 3) rfl
                                            have c3047 := sf_ma tw3034 (p := 72) rfl
                                            have c3048 := sf_mg tw3034 (p := 10) rfl
                                            have c3049 := sf_ma tw3034 (p := 93) rfl
                                            have c3050 := sf_mL tw3034 (p := 130) rfl
                                            have c3051 := sf_ma tw3034 (p := 2) rfl
                                            have c3052 := sf_ma tw3034 (p := 6) rfl
                                            have c3053 := sf_ma tw3034 (p := 75) rfl
                                            have c3054 := sf_ma tw3034 (p := 7) rfl
                                            have c3055 := sf_ma tw3034 (p := 76) rfl
                                            have c3056 := sf_ma tw3034 (p := 8) rfl
                                            have c3057 := sf_ma tw3034 (p := 77) rfl
                                            have c3058 := sf_ma tw3034 (p := 9) rfl
                                            have c3059 := sf_ma tw3034 (p := 78) rfl
                                            have c3060 := sf_ma tw3034 (p := 14) rfl
                                            have c3061 := sf_ma tw3034 (p := 79) rfl
                                            have c3062 := sf_ma tw3034 (p := 15) rfl
                                            have c3063 := sf_ma tw3034 (p := 80) rfl
                                            have c3064 := sf_ma tw3034 (p := 16) rfl
                                            have c3065 := sf_ma tw3034 (p := 81) rfl
                                            have c3066 := sf_ma tw3034 (p := 17) rfl
                                            have c3067 := sf_ma tw3034 (p := 82) rfl
                                            have c3068 := sf_ma tw3034 (p := 18) rfl
                                            have c3069 := sf_ma tw3034 (p := 83) rfl
                                            have c3070 := sf_ma tw3034 (p := 19) rfl
                                            have c3071 := sf_ma tw3034 (p := 84) rfl
                                            have c3072 := sf_ma tw3034 (p := 20) rfl
                                            have c3073 := sf_ma tw3034 (p := 85) rfl
                                            have c3074 := sf_ma tw3034 (p := 24) rfl
                                            have c3075 := sf_ma tw3034 (p := 86) rfl
                                            have c3076 := sf_ma tw3034 (p := 25) rfl
                                            have c3077 := sf_ma tw3034 (p := 87) rfl
                                            have c3078 := sf_ma tw3034 (p := 23) rfl
                                            have c3079 := sf_ma tw3034 (p := 88) rfl
                                            have c3080 := sf_ma tw3034 (p := 26) rfl
                                            have c3081 := sf_ma tw3034 (p := 89) rfl
                                            have c3082 := sf_ma tw3034 (p := 27) rfl
                                            have c3083 := sf_ma tw3034 (p := 90) rfl
                                            have c3084 := sf_ma tw3034 (p := 36) rfl
                                            have c3085 := sf_ma tw3034 (p := 102) rfl
                                            have c3086 := sf_ma tw3034 (p := 37) rfl
                                            have c3087 := sf_ma tw3034 (p := 103) rfl
                                            have c3088 := sf_ma tw3034 (p := 34) rfl
                                            have c3089 := sf_ma tw3034 (p := 30) rfl
                                            have c3090 := sf_ma tw3034 (p := 94) rfl
                                            have c3091 := sf_ma tw3034 (p := 95) rfl
                                            have c3092 := sf_ma tw3034 (p := 4) rfl
                                            have c3093 := sf_ma tw3034 (p := 73) rfl
                                            have c3094 := sf_ma tw3034 (p := 5) rfl
                                            have c3095 := sf_ma tw3034 (p := 74) rfl
                                            have c3096 := sf_ma tw3034 (p := 29) rfl
                                            have c3097 := sf_ma tw3034 (p := 98) rfl
                                            have c3098 := sf_mg tw3034 (p := 31) rfl
                                            have c3099 := sf_mg tw3034 (p := 32) rfl
                                            have c3100 := sf_mg tw3034 (p := 33) rfl
                                            have c3101 := sf_ma tw3034 (p := 96) rfl
                                            have c3102 := sf_ma tw3034 (p := 97) rfl
                                            refine sf_lstore (L' := [(5, .inl (.int v2960)), (0, .inl (.ref 100000)), (1, .inl (.ref 0)), (2, .inl (.ref 71)), (3, .inl (.ref 130)), (4, .inl (.int x4))]) rfl ?_
                                            show kt_W_law_1428 N xs K _ _ _ _ _
                                            refine sf_iinc (L' := [(6, .inl (.long v3033)), (5, .inl (.int v2960)), (0, .inl (.ref 100000)), (1, .inl (.ref 0)), (2, .inl (.ref 71)), (3, .inl (.ref 130))]) (x := x4) sf_c8 rfl rfl (by omega) (fun v3103 ev3103 => ?_)
                                            refine sf_can (L' := [(0, .inl (.ref 100000)), (1, .inl (.ref 0)), (2, .inl (.ref 71)), (3, .inl (.ref 130)), (4, .inl (.int v3103))]) rfl ?_
                                            exact ih _ _ _ _ Iw3034 (by omega) (by omega) (by omega) (by omega) (by rw [c3036, c2963]; rw [c3037, c2964]; rw [c3038, c2965]; rw [c3039, c2966]; rw [c3040, c2967]; rw [c3041, c2968]; rw [c3042, c2969]; rw [c3043, c2970]; rw [c3044, c2971]; rw [c3045, c2972]; omega) (by rw [c3046, c2973]; rw [c3047, c2974]; rw [c3037, c2964]; first | exact f_1 | exact hJ) (by rw [c3048, c2975]; rw [c3049, c2976]; first | exact f_2 | exact hK2) (by rw [c3051, c2977]; rw [c3047, c2974]; rw [c3037, c2964]; first | exact f_3 | exact hQ2) (by rw [c3052, c2978]; rw [c3053, c2979]; rw [c3039, c2966]; first | exact f_4 | exact hQ6) (by rw [c3054, c2980]; rw [c3055, c2981]; rw [c3039, c2966]; first | exact f_5 | exact hQ7) (by rw [c3056, c2982]; rw [c3057, c2983]; rw [c3039, c2966]; first | exact f_6 | exact hQ8) (by rw [c3058, c2984]; rw [c3059, c2985]; rw [c3039, c2966]; first | exact f_7 | exact hQ9) (by rw [c3060, c2986]; rw [c3061, c2987]; rw [c3041, c2968]; first | exact f_8 | exact hQ14) (by rw [c3062, c2988]; rw [c3063, c2989]; rw [c3041, c2968]; first | exact f_9 | exact hQ15) (by rw [c3064, c2990]; rw [c3065, c2991]; rw [c3041, c2968]; first | exact f_10 | exact hQ16) (by rw [c3066, c2992]; rw [c3067, c2993]; rw [c3041, c2968]; first | exact f_11 | exact hQ17) (by rw [c3068, c2994]; rw [c3069, c2995]; rw [c3041, c2968]; first | exact f_12 | exact hQ18) (by rw [c3070, c2996]; rw [c3071, c2997]; rw [c3041, c2968]; first | exact f_13 | exact hQ19) (by rw [c3072, c2998]; rw [c3073, c2999]; rw [c3041, c2968]; first | exact f_14 | exact hQ20) (by rw [c3074, c3000]; rw [c3075, c3001]; rw [c3043, c2970]; first | exact f_15 | exact hQ24) (by rw [c3076, c3002]; rw [c3077, c3003]; rw [c3043, c2970]; first | exact f_16 | exact hQ25) (by rw [c3078, c3004]; rw [c3079, c3005]; rw [c3043, c2970]; first | exact f_17 | exact hQ23) (by rw [c3080, c3006]; rw [c3081, c3007]; rw [c3043, c2970]; first | exact f_18 | exact hQ26) (by rw [c3082, c3008]; rw [c3083, c3009]; rw [c3043, c2970]; first | exact f_19 | exact hQ27) (by rw [c3084, c3010]; rw [c3085, c3011]; rw [c3045, c2972]; first | exact f_20 | exact hQ36) (by rw [c3086, c3012]; rw [c3087, c3013]; rw [c3045, c2972]; first | exact f_21 | exact hQ37) (by rw [c3088, c3014]; rw [c3089, c3015]; rw [c3090, c3016]; rw [c3091, c3017]; exact f_22) (by rw [c3092, c3018]; rw [c3093, c3019]; rw [c3094, c3020]; rw [c3095, c3021]; exact f_23) (by rw [c3096, c3022]; rw [c3097, c3023]; exact f_24) (by rw [c3098, c3024]; rw [c3091, c3017]; rw [c3099, c3025]; rw [c3101, c3027]; rw [c3100, c3026]; rw [c3102, c3028]; rw [c3090, c3016]; exact f_25) (by omega)
                                          · clear h2955
                                            refine sf_sw1 sf_c19 (fun h3104 => ?_) (fun h3104 => ?_)
                                            · refine sf_aload rfl ?_
                                              refine sf_aload rfl ?_
                                              refine sf_iload rfl ?_
                                              refine sf_iconst sf_c1 (fun z3105 ez3105 => ?_)
                                              refine sf_iadd (by omega) (fun v3106 ev3106 => ?_)
                                              refine sf_sldk (x := x4) (k := 1) (by omega) (by omega) (by omega) ?_
                                              clear ev3106 ez3105
                                              refine sf_aload rfl ?_
                                              refine sf_iload rfl ?_
                                              refine sf_iconst sf_c2 (fun z3107 ez3107 => ?_)
                                              refine sf_iadd (by omega) (fun v3108 ev3108 => ?_)
                                              refine sf_sldk (x := x4) (k := 2) (by omega) (by omega) (by omega) ?_
                                              clear ev3108 ez3107
                                              refine sf_aload rfl ?_
                                              refine sf_callv4 rfl (by omega) (by omega) ?_
                                              refine sc_W_export_0_130 I_w  (fun v3109 w3110 Iw3110 tw3110 lv3109 uv3109 => ?_)
                                              have c3112 := sf_mf tw3110 (p := 1) (j := 0) rfl
                                              have c3113 := sf_mf tw3110 (p := 71) (j := 1) rfl
                                              have c3114 := sf_mf tw3110 (p := 1) (j := 5) rfl
                                              have c3115 := sf_mf tw3110 (p := 71) (j := 5) rfl
                                              have c3116 := sf_mf tw3110 (p := 13) (j := 1) rfl
                                              have c3117 := sf_mf tw3110 (p := 71) (j := 10) rfl
                                              have c3118 := sf_mf tw3110 (p := 21) (j := 1) rfl
                                              have c3119 := sf_mf tw3110 (p := 71) (j := 18) rfl
                                              have c3120 := sf_mf tw3110 (p := 35) (j := 0) rfl
                                              have c3121 := sf_mf tw3110 (p := 71) (j := 35) rfl
                                              have c3122 := sf_ma tw3110 (p := 3) rfl
                                              have c3123 := sf_ma tw3110 (p := 72) rfl
                                              have c3124 := sf_mg tw3110 (p := 10) rfl
                                              have c3125 := sf_ma tw3110 (p := 93) rfl
                                              have c3126 := sf_ma tw3110 (p := 2) rfl
                                              have c3127 := sf_ma tw3110 (p := 6) rfl
                                              have c3128 := sf_ma tw3110 (p := 75) rfl
                                              have c3129 := sf_ma tw3110 (p := 7) rfl
                                              have c3130 := sf_ma tw3110 (p := 76) rfl
                                              have c3131 := sf_ma tw3110 (p := 8) rfl
                                              have c3132 := sf_ma tw3110 (p := 77) rfl
                                              have c3133 := sf_ma tw3110 (p := 9) rfl
                                              have c3134 := sf_ma tw3110 (p := 78) rfl
                                              have c3135 := sf_ma tw3110 (p := 14) rfl
                                              have c3136 := sf_ma tw3110 (p := 79) rfl
                                              have c3137 := sf_ma tw3110 (p := 15) rfl
                                              have c3138 := sf_ma tw3110 (p := 80) rfl
                                              have c3139 := sf_ma tw3110 (p := 16) rfl
                                              have c3140 := sf_ma tw3110 (p := 81) rfl
                                              have c3141 := sf_ma tw3110 (p := 17) rfl
                                              have c3142 := sf_ma tw3110 (p := 82) rfl
                                              have c3143 := sf_ma tw3110 (p := 18) rfl
                                              have c3144 := sf_ma tw3110 (p := 83) rfl
                                              have c3145 := sf_ma tw3110 (p := 19) rfl
                                              have c3146 := sf_ma tw3110 (p := 84) rfl
                                              have c3147 := sf_ma tw3110 (p := 20) rfl
                                              have c3148 := sf_ma tw3110 (p := 85) rfl
                                              have c3149 := sf_ma tw3110 (p := 24) rfl
                                              have c3150 := sf_ma tw3110 (p := 86) rfl
                                              have c3151 := sf_ma tw3110 (p := 25) rfl
                                              have c3152 := sf_ma tw3110 (p := 87) rfl
                                              have c3153 := sf_ma tw3110 (p := 23) rfl
                                              have c3154 := sf_ma tw3110 (p := 88) rfl
                                              have c3155 := sf_ma tw3110 (p := 26) rfl
                                              have c3156 := sf_ma tw3110 (p := 89) rfl
                                              have c3157 := sf_ma tw3110 (p := 27) rfl
                                              have c3158 := sf_ma tw3110 (p := 90) rfl
                                              have c3159 := sf_ma tw3110 (p := 36) rfl
                                              have c3160 := sf_ma tw3110 (p := 102) rfl
                                              have c3161 := sf_ma tw3110 (p := 37) rfl
                                              have c3162 := sf_ma tw3110 (p := 103) rfl
                                              have c3163 := sf_ma tw3110 (p := 34) rfl
                                              have c3164 := sf_ma tw3110 (p := 30) rfl
                                              have c3165 := sf_ma tw3110 (p := 94) rfl
                                              have c3166 := sf_ma tw3110 (p := 95) rfl
                                              have c3167 := sf_ma tw3110 (p := 4) rfl
                                              have c3168 := sf_ma tw3110 (p := 73) rfl
                                              have c3169 := sf_ma tw3110 (p := 5) rfl
                                              have c3170 := sf_ma tw3110 (p := 74) rfl
                                              have c3171 := sf_ma tw3110 (p := 29) rfl
                                              have c3172 := sf_ma tw3110 (p := 98) rfl
                                              have c3173 := sf_mg tw3110 (p := 31) rfl
                                              have c3174 := sf_mg tw3110 (p := 32) rfl
                                              have c3175 := sf_mg tw3110 (p := 33) rfl
                                              have c3176 := sf_ma tw3110 (p := 96) rfl
                                              have c3177 := sf_ma tw3110 (p := 97) rfl
                                              refine sf_istore (L' := [(0, .inl (.ref 100000)), (1, .inl (.ref 0)), (2, .inl (.ref 71)), (3, .inl (.ref 130)), (4, .inl (.int x4))]) rfl ?_
                                              refine sf_aload rfl ?_
                                              refine sf_aload rfl ?_
                                              refine sf_iload rfl ?_
                                              refine sf_iconst sf_c1 (fun z3178 ez3178 => ?_)
                                              refine sf_iadd (by omega) (fun v3179 ev3179 => ?_)
                                              refine sf_sldk (x := x4) (k := 1) (by omega) (by omega) (by omega) ?_
                                              clear ev3179 ez3178
                                              refine sf_aload rfl ?_
                                              refine sf_iload rfl ?_
                                              refine sf_iconst sf_c2 (fun z3180 ez3180 => ?_)
                                              refine sf_iadd (by omega) (fun v3181 ev3181 => ?_)
                                              refine sf_sldk (x := x4) (k := 2) (by omega) (by omega) (by omega) ?_
                                              clear ev3181 ez3180
                                              refine sf_callv3 rfl (by omega) (by omega) ?_
                                              refine sf_rv Iw3110 rfl ?_
                                              refine sc_M_export Iw3110  (fun v3182 w3183 Iw3183 tw3183 => ?_)
                                              have c3185 := sf_mf tw3183 (p := 1) (j := 0) rfl
                                              have c3186 := sf_mf tw3183 (p := 71) (j := 1) rfl
                                              have c3187 := sf_mf tw3183 (p := 1) (j := 5) rfl
                                              have c3188 := sf_mf tw3183 (p := 71) (j := 5) rfl
                                              have c3189 := sf_mf tw3183 (p := 13) (j := 1) rfl
                                              have c3190 := sf_mf tw3183 (p := 71) (j := 10) rfl
                                              have c3191 := sf_mf tw3183 (p := 21) (j := 1) rfl
                                              have c3192 := sf_mf tw3183 (p := 71) (j := 18) rfl
                                              have c3193 := sf_mf tw3183 (p := 35) (j := 0) rfl
                                              have c3194 := sf_mf tw3183 (p := 71) (j := 35) rfl
                                              have c3195 := sf_ma tw3183 (p := 3) rfl
                                              have c3196 := sf_ma tw3183 (p := 72) rfl
                                              have c3197 := sf_mg tw3183 (p := 10) rfl
                                              have c3198 := sf_ma tw3183 (p := 93) rfl
                                              have c3199 := sf_mL tw3183 (p := 130) rfl
                                              have c3200 := sf_ma tw3183 (p := 2) rfl
                                              have c3201 := sf_ma tw3183 (p := 6) rfl
                                              have c3202 := sf_ma tw3183 (p := 75) rfl
                                              have c3203 := sf_ma tw3183 (p := 7) rfl
                                              have c3204 := sf_ma tw3183 (p := 76) rfl
                                              have c3205 := sf_ma tw3183 (p := 8) rfl
                                              have c3206 := sf_ma tw3183 (p := 77) rfl
                                              have c3207 := sf_ma tw3183 (p := 9) rfl
                                              have c3208 := sf_ma tw3183 (p := 78) rfl
                                              have c3209 := sf_ma tw3183 (p := 14) rfl
                                              have c3210 := sf_ma tw3183 (p := 79) rfl
                                              have c3211 := sf_ma tw3183 (p := 15) rfl
                                              have c3212 := sf_ma tw3183 (p := 80) rfl
                                              have c3213 := sf_ma tw3183 (p := 16) rfl
                                              have c3214 := sf_ma tw3183 (p := 81) rfl
                                              have c3215 := sf_ma tw3183 (p := 17) rfl
                                              have c3216 := sf_ma tw3183 (p := 82) rfl
                                              have c3217 := sf_ma tw3183 (p := 18) rfl
                                              have c3218 := sf_ma tw3183 (p := 83) rfl
                                              have c3219 := sf_ma tw3183 (p := 19) rfl
                                              have c3220 := sf_ma tw3183 (p := 84) rfl
                                              have c3221 := sf_ma tw3183 (p := 20) rfl
                                              have c3222 := sf_ma tw3183 (p := 85) rfl
                                              have c3223 := sf_ma tw3183 (p := 24) rfl
                                              have c3224 := sf_ma tw3183 (p := 86) rfl
                                              have c3225 := sf_ma tw3183 (p := 25) rfl
                                              have c3226 := sf_ma tw3183 (p := 87) rfl
                                              have c3227 := sf_ma tw3183 (p := 23) rfl
                                              have c3228 := sf_ma tw3183 (p := 88) rfl
                                              have c3229 := sf_ma tw3183 (p := 26) rfl
                                              have c3230 := sf_ma tw3183 (p := 89) rfl
                                              have c3231 := sf_ma tw3183 (p := 27) rfl
                                              have c3232 := sf_ma tw3183 (p := 90) rfl
                                              have c3233 := sf_ma tw3183 (p := 36) rfl
                                              have c3234 := sf_ma tw3183 (p := 102) rfl
                                              have c3235 := sf_ma tw3183 (p := 37) rfl
                                              have c3236 := sf_ma tw3183 (p := 103) rfl
                                              have c3237 := sf_ma tw3183 (p := 34) rfl
                                              have c3238 := sf_ma tw3183 (p := 30) rfl
                                              have c3239 := sf_ma tw3183 (p := 94) rfl
                                              have c3240 := sf_ma tw3183 (p := 95) rfl
                                              have c3241 := sf_ma tw3183 (p := 4) rfl
                                              have c3242 := sf_ma tw3183 (p := 73) rfl
                                              have c3243 := sf_ma tw3183 (p := 5) rfl
                                              have c3244 := sf_ma tw3183 (p := 74) rfl
                                              have c3245 := sf_ma tw3183 (p := 29) rfl
                                              have c3246 := sf_ma tw3183 (p := 98) rfl
                                              have c3247 := sf_mg tw3183 (p := 31) rfl
                                              have c3248 := sf_mg tw3183 (p := 32) rfl
                                              have c3249 := sf_mg tw3183 (p := 33) rfl
                                              have c3250 := sf_ma tw3183 (p := 96) rfl
                                              have c3251 := sf_ma tw3183 (p := 97) rfl
                                              refine sf_lstore (L' := [(5, .inl (.int v3109)), (0, .inl (.ref 100000)), (1, .inl (.ref 0)), (2, .inl (.ref 71)), (3, .inl (.ref 130)), (4, .inl (.int x4))]) rfl ?_
                                              show kt_W_law_1428 N xs K _ _ _ _ _
                                              refine sf_iinc (L' := [(6, .inl (.long v3182)), (5, .inl (.int v3109)), (0, .inl (.ref 100000)), (1, .inl (.ref 0)), (2, .inl (.ref 71)), (3, .inl (.ref 130))]) (x := x4) sf_c8 rfl rfl (by omega) (fun v3252 ev3252 => ?_)
                                              refine sf_can (L' := [(0, .inl (.ref 100000)), (1, .inl (.ref 0)), (2, .inl (.ref 71)), (3, .inl (.ref 130)), (4, .inl (.int v3252))]) rfl ?_
                                              exact ih _ _ _ _ Iw3183 (by omega) (by omega) (by omega) (by omega) (by rw [c3185, c3112]; rw [c3186, c3113]; rw [c3187, c3114]; rw [c3188, c3115]; rw [c3189, c3116]; rw [c3190, c3117]; rw [c3191, c3118]; rw [c3192, c3119]; rw [c3193, c3120]; rw [c3194, c3121]; omega) (by rw [c3195, c3122]; rw [c3196, c3123]; rw [c3186, c3113]; first | exact f_1 | exact hJ) (by rw [c3197, c3124]; rw [c3198, c3125]; first | exact f_2 | exact hK2) (by rw [c3200, c3126]; rw [c3196, c3123]; rw [c3186, c3113]; first | exact f_3 | exact hQ2) (by rw [c3201, c3127]; rw [c3202, c3128]; rw [c3188, c3115]; first | exact f_4 | exact hQ6) (by rw [c3203, c3129]; rw [c3204, c3130]; rw [c3188, c3115]; first | exact f_5 | exact hQ7) (by rw [c3205, c3131]; rw [c3206, c3132]; rw [c3188, c3115]; first | exact f_6 | exact hQ8) (by rw [c3207, c3133]; rw [c3208, c3134]; rw [c3188, c3115]; first | exact f_7 | exact hQ9) (by rw [c3209, c3135]; rw [c3210, c3136]; rw [c3190, c3117]; first | exact f_8 | exact hQ14) (by rw [c3211, c3137]; rw [c3212, c3138]; rw [c3190, c3117]; first | exact f_9 | exact hQ15) (by rw [c3213, c3139]; rw [c3214, c3140]; rw [c3190, c3117]; first | exact f_10 | exact hQ16) (by rw [c3215, c3141]; rw [c3216, c3142]; rw [c3190, c3117]; first | exact f_11 | exact hQ17) (by rw [c3217, c3143]; rw [c3218, c3144]; rw [c3190, c3117]; first | exact f_12 | exact hQ18) (by rw [c3219, c3145]; rw [c3220, c3146]; rw [c3190, c3117]; first | exact f_13 | exact hQ19) (by rw [c3221, c3147]; rw [c3222, c3148]; rw [c3190, c3117]; first | exact f_14 | exact hQ20) (by rw [c3223, c3149]; rw [c3224, c3150]; rw [c3192, c3119]; first | exact f_15 | exact hQ24) (by rw [c3225, c3151]; rw [c3226, c3152]; rw [c3192, c3119]; first | exact f_16 | exact hQ25) (by rw [c3227, c3153]; rw [c3228, c3154]; rw [c3192, c3119]; first | exact f_17 | exact hQ23) (by rw [c3229, c3155]; rw [c3230, c3156]; rw [c3192, c3119]; first | exact f_18 | exact hQ26) (by rw [c3231, c3157]; rw [c3232, c3158]; rw [c3192, c3119]; first | exact f_19 | exact hQ27) (by rw [c3233, c3159]; rw [c3234, c3160]; rw [c3194, c3121]; first | exact f_20 | exact hQ36) (by rw [c3235, c3161]; rw [c3236, c3162]; rw [c3194, c3121]; first | exact f_21 | exact hQ37) (by rw [c3237, c3163]; rw [c3238, c3164]; rw [c3239, c3165]; rw [c3240, c3166]; exact f_22) (by rw [c3241, c3167]; rw [c3242, c3168]; rw [c3243, c3169]; rw [c3244, c3170]; exact f_23) (by rw [c3245, c3171]; rw [c3246, c3172]; exact f_24) (by rw [c3247, c3173]; rw [c3240, c3166]; rw [c3248, c3174]; rw [c3250, c3176]; rw [c3249, c3175]; rw [c3251, c3177]; rw [c3239, c3165]; exact f_25) (by omega)
                                            · clear h3104
                                              refine sf_sw1 sf_c20 (fun h3253 => ?_) (fun h3253 => ?_)
                                              · refine sf_aload rfl ?_
                                                refine sf_aload rfl ?_
                                                refine sf_iload rfl ?_
                                                refine sf_iconst sf_c1 (fun z3254 ez3254 => ?_)
                                                refine sf_iadd (by omega) (fun v3255 ev3255 => ?_)
                                                refine sf_sldk (x := x4) (k := 1) (by omega) (by omega) (by omega) ?_
                                                clear ev3255 ez3254
                                                refine sf_aload rfl ?_
                                                refine sf_iload rfl ?_
                                                refine sf_iconst sf_c2 (fun z3256 ez3256 => ?_)
                                                refine sf_iadd (by omega) (fun v3257 ev3257 => ?_)
                                                refine sf_sldk (x := x4) (k := 2) (by omega) (by omega) (by omega) ?_
                                                clear ev3257 ez3256
                                                refine sf_aload rfl ?_
                                                refine sf_iload rfl ?_
                                                refine sf_iconst sf_c3 (fun z3258 ez3258 => ?_)
                                                refine sf_iadd (by omega) (fun v3259 ev3259 => ?_)
                                                refine sf_sldk (x := x4) (k := 3) (by omega) (by omega) (by omega) ?_
                                                clear ev3259 ez3258
                                                refine sf_aload rfl ?_
                                                refine sf_iload rfl ?_
                                                refine sf_iconst sf_c4 (fun z3260 ez3260 => ?_)
                                                refine sf_iadd (by omega) (fun v3261 ev3261 => ?_)
                                                refine sf_sldk (x := x4) (k := 4) (by omega) (by omega) (by omega) ?_
                                                clear ev3261 ez3260
                                                refine sf_aload rfl ?_
                                                refine sf_callv6 rfl (by omega) (by omega) ?_
                                                refine sc_W_work_0_130 I_w  (fun v3262 w3263 Iw3263 tw3263 lv3262 uv3262 => ?_)
                                                have c3265 := sf_mf tw3263 (p := 1) (j := 0) rfl
                                                have c3266 := sf_mf tw3263 (p := 71) (j := 1) rfl
                                                have c3267 := sf_mf tw3263 (p := 1) (j := 5) rfl
                                                have c3268 := sf_mf tw3263 (p := 71) (j := 5) rfl
                                                have c3269 := sf_mf tw3263 (p := 13) (j := 1) rfl
                                                have c3270 := sf_mf tw3263 (p := 71) (j := 10) rfl
                                                have c3271 := sf_mf tw3263 (p := 21) (j := 1) rfl
                                                have c3272 := sf_mf tw3263 (p := 71) (j := 18) rfl
                                                have c3273 := sf_mf tw3263 (p := 35) (j := 0) rfl
                                                have c3274 := sf_mf tw3263 (p := 71) (j := 35) rfl
                                                have c3275 := sf_ma tw3263 (p := 3) rfl
                                                have c3276 := sf_ma tw3263 (p := 72) rfl
                                                have c3277 := sf_mg tw3263 (p := 10) rfl
                                                have c3278 := sf_ma tw3263 (p := 93) rfl
                                                have c3279 := sf_ma tw3263 (p := 2) rfl
                                                have c3280 := sf_ma tw3263 (p := 6) rfl
                                                have c3281 := sf_ma tw3263 (p := 75) rfl
                                                have c3282 := sf_ma tw3263 (p := 7) rfl
                                                have c3283 := sf_ma tw3263 (p := 76) rfl
                                                have c3284 := sf_ma tw3263 (p := 8) rfl
                                                have c3285 := sf_ma tw3263 (p := 77) rfl
                                                have c3286 := sf_ma tw3263 (p := 9) rfl
                                                have c3287 := sf_ma tw3263 (p := 78) rfl
                                                have c3288 := sf_ma tw3263 (p := 14) rfl
                                                have c3289 := sf_ma tw3263 (p := 79) rfl
                                                have c3290 := sf_ma tw3263 (p := 15) rfl
                                                have c3291 := sf_ma tw3263 (p := 80) rfl
                                                have c3292 := sf_ma tw3263 (p := 16) rfl
                                                have c3293 := sf_ma tw3263 (p := 81) rfl
                                                have c3294 := sf_ma tw3263 (p := 17) rfl
                                                have c3295 := sf_ma tw3263 (p := 82) rfl
                                                have c3296 := sf_ma tw3263 (p := 18) rfl
                                                have c3297 := sf_ma tw3263 (p := 83) rfl
                                                have c3298 := sf_ma tw3263 (p := 19) rfl
                                                have c3299 := sf_ma tw3263 (p := 84) rfl
                                                have c3300 := sf_ma tw3263 (p := 20) rfl
                                                have c3301 := sf_ma tw3263 (p := 85) rfl
                                                have c3302 := sf_ma tw3263 (p := 24) rfl
                                                have c3303 := sf_ma tw3263 (p := 86) rfl
                                                have c3304 := sf_ma tw3263 (p := 25) rfl
                                                have c3305 := sf_ma tw3263 (p := 87) rfl
                                                have c3306 := sf_ma tw3263 (p := 23) rfl
                                                have c3307 := sf_ma tw3263 (p := 88) rfl
                                                have c3308 := sf_ma tw3263 (p := 26) rfl
                                                have c3309 := sf_ma tw3263 (p := 89) rfl
                                                have c3310 := sf_ma tw3263 (p := 27) rfl
                                                have c3311 := sf_ma tw3263 (p := 90) rfl
                                                have c3312 := sf_ma tw3263 (p := 36) rfl
                                                have c3313 := sf_ma tw3263 (p := 102) rfl
                                                have c3314 := sf_ma tw3263 (p := 37) rfl
                                                have c3315 := sf_ma tw3263 (p := 103) rfl
                                                have c3316 := sf_ma tw3263 (p := 34) rfl
                                                have c3317 := sf_ma tw3263 (p := 30) rfl
                                                have c3318 := sf_ma tw3263 (p := 94) rfl
                                                have c3319 := sf_ma tw3263 (p := 95) rfl
                                                have c3320 := sf_ma tw3263 (p := 4) rfl
                                                have c3321 := sf_ma tw3263 (p := 73) rfl
                                                have c3322 := sf_ma tw3263 (p := 5) rfl
                                                have c3323 := sf_ma tw3263 (p := 74) rfl
                                                have c3324 := sf_ma tw3263 (p := 29) rfl
                                                have c3325 := sf_ma tw3263 (p := 98) rfl
                                                have c3326 := sf_mg tw3263 (p := 31) rfl
                                                have c3327 := sf_mg tw3263 (p := 32) rfl
                                                have c3328 := sf_mg tw3263 (p := 33) rfl
                                                have c3329 := sf_ma tw3263 (p := 96) rfl
                                                have c3330 := sf_ma tw3263 (p := 97) rfl
                                                refine sf_istore (L' := [(0, .inl (.ref 100000)), (1, .inl (.ref 0)), (2, .inl (.ref 71)), (3, .inl (.ref 130)), (4, .inl (.int x4))]) rfl ?_
                                                refine sf_aload rfl ?_
                                                refine sf_aload rfl ?_
                                                refine sf_iload rfl ?_
                                                refine sf_iconst sf_c1 (fun z3331 ez3331 => ?_)
                                                refine sf_iadd (by omega) (fun v3332 ev3332 => ?_)
                                                refine sf_sldk (x := x4) (k := 1) (by omega) (by omega) (by omega) ?_
                                                clear ev3332 ez3331
                                                refine sf_aload rfl ?_
                                                refine sf_iload rfl ?_
                                                refine sf_iconst sf_c2 (fun z3333 ez3333 => ?_)
                                                refine sf_iadd (by omega) (fun v3334 ev3334 => ?_)
                                                refine sf_sldk (x := x4) (k := 2) (by omega) (by omega) (by omega) ?_
                                                clear ev3334 ez3333
                                                refine sf_aload rfl ?_
                                                refine sf_iload rfl ?_
                                                refine sf_iconst sf_c3 (fun z3335 ez3335 => ?_)
                                                refine sf_iadd (by omega) (fun v3336 ev3336 => ?_)
                                                refine sf_sldk (x := x4) (k := 3) (by omega) (by omega) (by omega) ?_
                                                clear ev3336 ez3335
                                                refine sf_aload rfl ?_
                                                refine sf_iload rfl ?_
                                                refine sf_iconst sf_c4 (fun z3337 ez3337 => ?_)
                                                refine sf_iadd (by omega) (fun v3338 ev3338 => ?_)
                                                refine sf_sldk (x := x4) (k := 4) (by omega) (by omega) (by omega) ?_
                                                clear ev3338 ez3337
                                                refine sf_callv5 rfl (by omega) (by omega) ?_
                                                refine sf_rv Iw3263 rfl ?_
                                                refine sc_M_work Iw3263  (fun v3339 w3340 Iw3340 tw3340 lv3339 uv3339 => ?_)
                                                have c3342 := sf_mf tw3340 (p := 1) (j := 0) rfl
                                                have c3343 := sf_mf tw3340 (p := 71) (j := 1) rfl
                                                have c3344 := sf_mf tw3340 (p := 1) (j := 5) rfl
                                                have c3345 := sf_mf tw3340 (p := 71) (j := 5) rfl
                                                have c3346 := sf_mf tw3340 (p := 13) (j := 1) rfl
                                                have c3347 := sf_mf tw3340 (p := 71) (j := 10) rfl
                                                have c3348 := sf_mf tw3340 (p := 21) (j := 1) rfl
                                                have c3349 := sf_mf tw3340 (p := 71) (j := 18) rfl
                                                have c3350 := sf_mf tw3340 (p := 35) (j := 0) rfl
                                                have c3351 := sf_mf tw3340 (p := 71) (j := 35) rfl
                                                have c3352 := sf_ma tw3340 (p := 3) rfl
                                                have c3353 := sf_ma tw3340 (p := 72) rfl
                                                have c3354 := sf_mg tw3340 (p := 10) rfl
                                                have c3355 := sf_ma tw3340 (p := 93) rfl
                                                have c3356 := sf_mL tw3340 (p := 130) rfl
                                                have c3357 := sf_ma tw3340 (p := 2) rfl
                                                have c3358 := sf_ma tw3340 (p := 6) rfl
                                                have c3359 := sf_ma tw3340 (p := 75) rfl
                                                have c3360 := sf_ma tw3340 (p := 7) rfl
                                                have c3361 := sf_ma tw3340 (p := 76) rfl
                                                have c3362 := sf_ma tw3340 (p := 8) rfl
                                                have c3363 := sf_ma tw3340 (p := 77) rfl
                                                have c3364 := sf_ma tw3340 (p := 9) rfl
                                                have c3365 := sf_ma tw3340 (p := 78) rfl
                                                have c3366 := sf_ma tw3340 (p := 14) rfl
                                                have c3367 := sf_ma tw3340 (p := 79) rfl
                                                have c3368 := sf_ma tw3340 (p := 15) rfl
                                                have c3369 := sf_ma tw3340 (p := 80) rfl
                                                have c3370 := sf_ma tw3340 (p := 16) rfl
                                                have c3371 := sf_ma tw3340 (p := 81) rfl
                                                have c3372 := sf_ma tw3340 (p := 17) rfl
                                                have c3373 := sf_ma tw3340 (p := 82) rfl
                                                have c3374 := sf_ma tw3340 (p := 18) rfl
                                                have c3375 := sf_ma tw3340 (p := 83) rfl
                                                have c3376 := sf_ma tw3340 (p := 19) rfl
                                                have c3377 := sf_ma tw3340 (p := 84) rfl
                                                have c3378 := sf_ma tw3340 (p := 20) rfl
                                                have c3379 := sf_ma tw3340 (p := 85) rfl
                                                have c3380 := sf_ma tw3340 (p := 24) rfl
                                                have c3381 := sf_ma tw3340 (p := 86) rfl
                                                have c3382 := sf_ma tw3340 (p := 25) rfl
                                                have c3383 := sf_ma tw3340 (p := 87) rfl
                                                have c3384 := sf_ma tw3340 (p := 23) rfl
                                                have c3385 := sf_ma tw3340 (p := 88) rfl
                                                have c3386 := sf_ma tw3340 (p := 26) rfl
                                                have c3387 := sf_ma tw3340 (p := 89) rfl
                                                have c3388 := sf_ma tw3340 (p := 27) rfl
                                                have c3389 := sf_ma tw3340 (p := 90) rfl
                                                have c3390 := sf_ma tw3340 (p := 36) rfl
                                                have c3391 := sf_ma tw3340 (p := 102) rfl
                                                have c3392 := sf_ma tw3340 (p := 37) rfl
                                                have c3393 := sf_ma tw3340 (p := 103) rfl
                                                have c3394 := sf_ma tw3340 (p := 34) rfl
                                                have c3395 := sf_ma tw3340 (p := 30) rfl
                                                have c3396 := sf_ma tw3340 (p := 94) rfl
                                                have c3397 := sf_ma tw3340 (p := 95) rfl
                                                have c3398 := sf_ma tw3340 (p := 4) rfl
                                                have c3399 := sf_ma tw3340 (p := 73) rfl
                                                have c3400 := sf_ma tw3340 (p := 5) rfl
                                                have c3401 := sf_ma tw3340 (p := 74) rfl
                                                have c3402 := sf_ma tw3340 (p := 29) rfl
                                                have c3403 := sf_ma tw3340 (p := 98) rfl
                                                have c3404 := sf_mg tw3340 (p := 31) rfl
                                                have c3405 := sf_mg tw3340 (p := 32) rfl
                                                have c3406 := sf_mg tw3340 (p := 33) rfl
                                                have c3407 := sf_ma tw3340 (p := 96) rfl
                                                have c3408 := sf_ma tw3340 (p := 97) rfl
                                                refine sf_istore (L' := [(5, .inl (.int v3262)), (0, .inl (.ref 100000)), (1, .inl (.ref 0)), (2, .inl (.ref 71)), (3, .inl (.ref 130)), (4, .inl (.int x4))]) rfl ?_
                                                show kt_W_law_1428 N xs K _ _ _ _ _
                                                refine sf_iinc (L' := [(6, .inl (.int v3339)), (5, .inl (.int v3262)), (0, .inl (.ref 100000)), (1, .inl (.ref 0)), (2, .inl (.ref 71)), (3, .inl (.ref 130))]) (x := x4) sf_c8 rfl rfl (by omega) (fun v3409 ev3409 => ?_)
                                                refine sf_can (L' := [(0, .inl (.ref 100000)), (1, .inl (.ref 0)), (2, .inl (.ref 71)), (3, .inl (.ref 130)), (4, .inl (.int v3409))]) rfl ?_
                                                exact ih _ _ _ _ Iw3340 (by omega) (by omega) (by omega) (by omega) (by rw [c3342, c3265]; rw [c3343, c3266]; rw [c3344, c3267]; rw [c3345, c3268]; rw [c3346, c3269]; rw [c3347, c3270]; rw [c3348, c3271]; rw [c3349, c3272]; rw [c3350, c3273]; rw [c3351, c3274]; omega) (by rw [c3352, c3275]; rw [c3353, c3276]; rw [c3343, c3266]; first | exact f_1 | exact hJ) (by rw [c3354, c3277]; rw [c3355, c3278]; first | exact f_2 | exact hK2) (by rw [c3357, c3279]; rw [c3353, c3276]; rw [c3343, c3266]; first | exact f_3 | exact hQ2) (by rw [c3358, c3280]; rw [c3359, c3281]; rw [c3345, c3268]; first | exact f_4 | exact hQ6) (by rw [c3360, c3282]; rw [c3361, c3283]; rw [c3345, c3268]; first | exact f_5 | exact hQ7) (by rw [c3362, c3284]; rw [c3363, c3285]; rw [c3345, c3268]; first | exact f_6 | exact hQ8) (by rw [c3364, c3286]; rw [c3365, c3287]; rw [c3345, c3268]; first | exact f_7 | exact hQ9) (by rw [c3366, c3288]; rw [c3367, c3289]; rw [c3347, c3270]; first | exact f_8 | exact hQ14) (by rw [c3368, c3290]; rw [c3369, c3291]; rw [c3347, c3270]; first | exact f_9 | exact hQ15) (by rw [c3370, c3292]; rw [c3371, c3293]; rw [c3347, c3270]; first | exact f_10 | exact hQ16) (by rw [c3372, c3294]; rw [c3373, c3295]; rw [c3347, c3270]; first | exact f_11 | exact hQ17) (by rw [c3374, c3296]; rw [c3375, c3297]; rw [c3347, c3270]; first | exact f_12 | exact hQ18) (by rw [c3376, c3298]; rw [c3377, c3299]; rw [c3347, c3270]; first | exact f_13 | exact hQ19) (by rw [c3378, c3300]; rw [c3379, c3301]; rw [c3347, c3270]; first | exact f_14 | exact hQ20) (by rw [c3380, c3302]; rw [c3381, c3303]; rw [c3349, c3272]; first | exact f_15 | exact hQ24) (by rw [c3382, c3304]; rw [c3383, c3305]; rw [c3349, c3272]; first | exact f_16 | exact hQ25) (by rw [c3384, c3306]; rw [c3385, c3307]; rw [c3349, c3272]; first | exact f_17 | exact hQ23) (by rw [c3386, c3308]; rw [c3387, c3309]; rw [c3349, c3272]; first | exact f_18 | exact hQ26) (by rw [c3388, c3310]; rw [c3389, c3311]; rw [c3349, c3272]; first | exact f_19 | exact hQ27) (by rw [c3390, c3312]; rw [c3391, c3313]; rw [c3351, c3274]; first | exact f_20 | exact hQ36) (by rw [c3392, c3314]; rw [c3393, c3315]; rw [c3351, c3274]; first | exact f_21 | exact hQ37) (by rw [c3394, c3316]; rw [c3395, c3317]; rw [c3396, c3318]; rw [c3397, c3319]; exact f_22) (by rw [c3398, c3320]; rw [c3399, c3321]; rw [c3400, c3322]; rw [c3401, c3323]; exact f_23) (by rw [c3402, c3324]; rw [c3403, c3325]; exact f_24) (by rw [c3404, c3326]; rw [c3397, c3319]; rw [c3405, c3327]; rw [c3407, c3329]; rw [c3406, c3328]; rw [c3408, c3330]; rw [c3396, c3318]; exact f_25) (by omega)
                                              · clear h3253
                                                refine sf_sw1 sf_c21 (fun h3410 => ?_) (fun h3410 => ?_)
                                                · refine sf_aload rfl ?_
                                                  refine sf_aload rfl ?_
                                                  refine sf_iload rfl ?_
                                                  refine sf_iconst sf_c1 (fun z3411 ez3411 => ?_)
                                                  refine sf_iadd (by omega) (fun v3412 ev3412 => ?_)
                                                  refine sf_sldk (x := x4) (k := 1) (by omega) (by omega) (by omega) ?_
                                                  clear ev3412 ez3411
                                                  refine sf_aload rfl ?_
                                                  refine sf_iload rfl ?_
                                                  refine sf_iconst sf_c2 (fun z3413 ez3413 => ?_)
                                                  refine sf_iadd (by omega) (fun v3414 ev3414 => ?_)
                                                  refine sf_sldk (x := x4) (k := 2) (by omega) (by omega) (by omega) ?_
                                                  clear ev3414 ez3413
                                                  refine sf_aload rfl ?_
                                                  refine sf_callv4 rfl (by omega) (by omega) ?_
                                                  refine sc_W_lot_0_130 I_w  (fun v3415 w3416 Iw3416 tw3416 lv3415 uv3415 => ?_)
                                                  have c3418 := sf_mf tw3416 (p := 1) (j := 0) rfl
                                                  have c3419 := sf_mf tw3416 (p := 71) (j := 1) rfl
                                                  have c3420 := sf_mf tw3416 (p := 1) (j := 5) rfl
                                                  have c3421 := sf_mf tw3416 (p := 71) (j := 5) rfl
                                                  have c3422 := sf_mf tw3416 (p := 13) (j := 1) rfl
                                                  have c3423 := sf_mf tw3416 (p := 71) (j := 10) rfl
                                                  have c3424 := sf_mf tw3416 (p := 21) (j := 1) rfl
                                                  have c3425 := sf_mf tw3416 (p := 71) (j := 18) rfl
                                                  have c3426 := sf_mf tw3416 (p := 35) (j := 0) rfl
                                                  have c3427 := sf_mf tw3416 (p := 71) (j := 35) rfl
                                                  have c3428 := sf_ma tw3416 (p := 3) rfl
                                                  have c3429 := sf_ma tw3416 (p := 72) rfl
                                                  have c3430 := sf_mg tw3416 (p := 10) rfl
                                                  have c3431 := sf_ma tw3416 (p := 93) rfl
                                                  have c3432 := sf_ma tw3416 (p := 2) rfl
                                                  have c3433 := sf_ma tw3416 (p := 6) rfl
                                                  have c3434 := sf_ma tw3416 (p := 75) rfl
                                                  have c3435 := sf_ma tw3416 (p := 7) rfl
                                                  have c3436 := sf_ma tw3416 (p := 76) rfl
                                                  have c3437 := sf_ma tw3416 (p := 8) rfl
                                                  have c3438 := sf_ma tw3416 (p := 77) rfl
                                                  have c3439 := sf_ma tw3416 (p := 9) rfl
                                                  have c3440 := sf_ma tw3416 (p := 78) rfl
                                                  have c3441 := sf_ma tw3416 (p := 14) rfl
                                                  have c3442 := sf_ma tw3416 (p := 79) rfl
                                                  have c3443 := sf_ma tw3416 (p := 15) rfl
                                                  have c3444 := sf_ma tw3416 (p := 80) rfl
                                                  have c3445 := sf_ma tw3416 (p := 16) rfl
                                                  have c3446 := sf_ma tw3416 (p := 81) rfl
                                                  have c3447 := sf_ma tw3416 (p := 17) rfl
                                                  have c3448 := sf_ma tw3416 (p := 82) rfl
                                                  have c3449 := sf_ma tw3416 (p := 18) rfl
                                                  have c3450 := sf_ma tw3416 (p := 83) rfl
                                                  have c3451 := sf_ma tw3416 (p := 19) rfl
                                                  have c3452 := sf_ma tw3416 (p := 84) rfl
                                                  have c3453 := sf_ma tw3416 (p := 20) rfl
                                                  have c3454 := sf_ma tw3416 (p := 85) rfl
                                                  have c3455 := sf_ma tw3416 (p := 24) rfl
                                                  have c3456 := sf_ma tw3416 (p := 86) rfl
                                                  have c3457 := sf_ma tw3416 (p := 25) rfl
                                                  have c3458 := sf_ma tw3416 (p := 87) rfl
                                                  have c3459 := sf_ma tw3416 (p := 23) rfl
                                                  have c3460 := sf_ma tw3416 (p := 88) rfl
                                                  have c3461 := sf_ma tw3416 (p := 26) rfl
                                                  have c3462 := sf_ma tw3416 (p := 89) rfl
                                                  have c3463 := sf_ma tw3416 (p := 27) rfl
                                                  have c3464 := sf_ma tw3416 (p := 90) rfl
                                                  have c3465 := sf_ma tw3416 (p := 36) rfl
                                                  have c3466 := sf_ma tw3416 (p := 102) rfl
                                                  have c3467 := sf_ma tw3416 (p := 37) rfl
                                                  have c3468 := sf_ma tw3416 (p := 103) rfl
                                                  have c3469 := sf_ma tw3416 (p := 34) rfl
                                                  have c3470 := sf_ma tw3416 (p := 30) rfl
                                                  have c3471 := sf_ma tw3416 (p := 94) rfl
                                                  have c3472 := sf_ma tw3416 (p := 95) rfl
                                                  have c3473 := sf_ma tw3416 (p := 4) rfl
                                                  have c3474 := sf_ma tw3416 (p := 73) rfl
                                                  have c3475 := sf_ma tw3416 (p := 5) rfl
                                                  have c3476 := sf_ma tw3416 (p := 74) rfl
                                                  have c3477 := sf_ma tw3416 (p := 29) rfl
                                                  have c3478 := sf_ma tw3416 (p := 98) rfl
                                                  have c3479 := sf_mg tw3416 (p := 31) rfl
                                                  have c3480 := sf_mg tw3416 (p := 32) rfl
                                                  have c3481 := sf_mg tw3416 (p := 33) rfl
                                                  have c3482 := sf_ma tw3416 (p := 96) rfl
                                                  have c3483 := sf_ma tw3416 (p := 97) rfl
                                                  refine sf_istore (L' := [(0, .inl (.ref 100000)), (1, .inl (.ref 0)), (2, .inl (.ref 71)), (3, .inl (.ref 130)), (4, .inl (.int x4))]) rfl ?_
                                                  refine sf_aload rfl ?_
                                                  refine sf_aload rfl ?_
                                                  refine sf_iload rfl ?_
                                                  refine sf_iconst sf_c1 (fun z3484 ez3484 => ?_)
                                                  refine sf_iadd (by omega) (fun v3485 ev3485 => ?_)
                                                  refine sf_sldk (x := x4) (k := 1) (by omega) (by omega) (by omega) ?_
                                                  clear ev3485 ez3484
                                                  refine sf_aload rfl ?_
                                                  refine sf_iload rfl ?_
                                                  refine sf_iconst sf_c2 (fun z3486 ez3486 => ?_)
                                                  refine sf_iadd (by omega) (fun v3487 ev3487 => ?_)
                                                  refine sf_sldk (x := x4) (k := 2) (by omega) (by omega) (by omega) ?_
                                                  clear ev3487 ez3486
                                                  refine sf_callv3 rfl (by omega) (by omega) ?_
                                                  refine sf_rv Iw3416 rfl ?_
                                                  refine sc_M_lot Iw3416  (fun v3488 w3489 Iw3489 tw3489 => ?_)
                                                  have c3491 := sf_mf tw3489 (p := 1) (j := 0) rfl
                                                  have c3492 := sf_mf tw3489 (p := 71) (j := 1) rfl
                                                  have c3493 := sf_mf tw3489 (p := 1) (j := 5) rfl
                                                  have c3494 := sf_mf tw3489 (p := 71) (j := 5) rfl
                                                  have c3495 := sf_mf tw3489 (p := 13) (j := 1) rfl
                                                  have c3496 := sf_mf tw3489 (p := 71) (j := 10) rfl
                                                  have c3497 := sf_mf tw3489 (p := 21) (j := 1) rfl
                                                  have c3498 := sf_mf tw3489 (p := 71) (j := 18) rfl
                                                  have c3499 := sf_mf tw3489 (p := 35) (j := 0) rfl
                                                  have c3500 := sf_mf tw3489 (p := 71) (j := 35) rfl
                                                  have c3501 := sf_ma tw3489 (p := 3) rfl
                                                  have c3502 := sf_ma tw3489 (p := 72) rfl
                                                  have c3503 := sf_mg tw3489 (p := 10) rfl
                                                  have c3504 := sf_ma tw3489 (p := 93) rfl
                                                  have c3505 := sf_mL tw3489 (p := 130) rfl
                                                  have c3506 := sf_ma tw3489 (p := 2) rfl
                                                  have c3507 := sf_ma tw3489 (p := 6) rfl
                                                  have c3508 := sf_ma tw3489 (p := 75) rfl
                                                  have c3509 := sf_ma tw3489 (p := 7) rfl
                                                  have c3510 := sf_ma tw3489 (p := 76) rfl
                                                  have c3511 := sf_ma tw3489 (p := 8) rfl
                                                  have c3512 := sf_ma tw3489 (p := 77) rfl
                                                  have c3513 := sf_ma tw3489 (p := 9) rfl
                                                  have c3514 := sf_ma tw3489 (p := 78) rfl
                                                  have c3515 := sf_ma tw3489 (p := 14) rfl
                                                  have c3516 := sf_ma tw3489 (p := 79) rfl
                                                  have c3517 := sf_ma tw3489 (p := 15) rfl
                                                  have c3518 := sf_ma tw3489 (p := 80) rfl
                                                  have c3519 := sf_ma tw3489 (p := 16) rfl
                                                  have c3520 := sf_ma tw3489 (p := 81) rfl
                                                  have c3521 := sf_ma tw3489 (p := 17) rfl
                                                  have c3522 := sf_ma tw3489 (p := 82) rfl
                                                  have c3523 := sf_ma tw3489 (p := 18) rfl
                                                  have c3524 := sf_ma tw3489 (p := 83) rfl
                                                  have c3525 := sf_ma tw3489 (p := 19) rfl
                                                  have c3526 := sf_ma tw3489 (p := 84) rfl
                                                  have c3527 := sf_ma tw3489 (p := 20) rfl
                                                  have c3528 := sf_ma tw3489 (p := 85) rfl
                                                  have c3529 := sf_ma tw3489 (p := 24) rfl
                                                  have c3530 := sf_ma tw3489 (p := 86) rfl
                                                  have c3531 := sf_ma tw3489 (p := 25) rfl
                                                  have c3532 := sf_ma tw3489 (p := 87) rfl
                                                  have c3533 := sf_ma tw3489 (p := 23) rfl
                                                  have c3534 := sf_ma tw3489 (p := 88) rfl
                                                  have c3535 := sf_ma tw3489 (p := 26) rfl
                                                  have c3536 := sf_ma tw3489 (p := 89) rfl
                                                  have c3537 := sf_ma tw3489 (p := 27) rfl
                                                  have c3538 := sf_ma tw3489 (p := 90) rfl
                                                  have c3539 := sf_ma tw3489 (p := 36) rfl
                                                  have c3540 := sf_ma tw3489 (p := 102) rfl
                                                  have c3541 := sf_ma tw3489 (p := 37) rfl
                                                  have c3542 := sf_ma tw3489 (p := 103) rfl
                                                  have c3543 := sf_ma tw3489 (p := 34) rfl
                                                  have c3544 := sf_ma tw3489 (p := 30) rfl
                                                  have c3545 := sf_ma tw3489 (p := 94) rfl
                                                  have c3546 := sf_ma tw3489 (p := 95) rfl
                                                  have c3547 := sf_ma tw3489 (p := 4) rfl
                                                  have c3548 := sf_ma tw3489 (p := 73) rfl
                                                  have c3549 := sf_ma tw3489 (p := 5) rfl
                                                  have c3550 := sf_ma tw3489 (p := 74) rfl
                                                  have c3551 := sf_ma tw3489 (p := 29) rfl
                                                  have c3552 := sf_ma tw3489 (p := 98) rfl
                                                  have c3553 := sf_mg tw3489 (p := 31) rfl
                                                  have c3554 := sf_mg tw3489 (p := 32) rfl
                                                  have c3555 := sf_mg tw3489 (p := 33) rfl
                                                  have c3556 := sf_ma tw3489 (p := 96) rfl
                                                  have c3557 := sf_ma tw3489 (p := 97) rfl
                                                  refine sf_lstore (L' := [(5, .inl (.int v3415)), (0, .inl (.ref 100000)), (1, .inl (.ref 0)), (2, .inl (.ref 71)), (3, .inl (.ref 130)), (4, .inl (.int x4))]) rfl ?_
                                                  show kt_W_law_1428 N xs K _ _ _ _ _
                                                  refine sf_iinc (L' := [(6, .inl (.long v3488)), (5, .inl (.int v3415)), (0, .inl (.ref 100000)), (1, .inl (.ref 0)), (2, .inl (.ref 71)), (3, .inl (.ref 130))]) (x := x4) sf_c8 rfl rfl (by omega) (fun v3558 ev3558 => ?_)
                                                  refine sf_can (L' := [(0, .inl (.ref 100000)), (1, .inl (.ref 0)), (2, .inl (.ref 71)), (3, .inl (.ref 130)), (4, .inl (.int v3558))]) rfl ?_
                                                  exact ih _ _ _ _ Iw3489 (by omega) (by omega) (by omega) (by omega) (by rw [c3491, c3418]; rw [c3492, c3419]; rw [c3493, c3420]; rw [c3494, c3421]; rw [c3495, c3422]; rw [c3496, c3423]; rw [c3497, c3424]; rw [c3498, c3425]; rw [c3499, c3426]; rw [c3500, c3427]; omega) (by rw [c3501, c3428]; rw [c3502, c3429]; rw [c3492, c3419]; first | exact f_1 | exact hJ) (by rw [c3503, c3430]; rw [c3504, c3431]; first | exact f_2 | exact hK2) (by rw [c3506, c3432]; rw [c3502, c3429]; rw [c3492, c3419]; first | exact f_3 | exact hQ2) (by rw [c3507, c3433]; rw [c3508, c3434]; rw [c3494, c3421]; first | exact f_4 | exact hQ6) (by rw [c3509, c3435]; rw [c3510, c3436]; rw [c3494, c3421]; first | exact f_5 | exact hQ7) (by rw [c3511, c3437]; rw [c3512, c3438]; rw [c3494, c3421]; first | exact f_6 | exact hQ8) (by rw [c3513, c3439]; rw [c3514, c3440]; rw [c3494, c3421]; first | exact f_7 | exact hQ9) (by rw [c3515, c3441]; rw [c3516, c3442]; rw [c3496, c3423]; first | exact f_8 | exact hQ14) (by rw [c3517, c3443]; rw [c3518, c3444]; rw [c3496, c3423]; first | exact f_9 | exact hQ15) (by rw [c3519, c3445]; rw [c3520, c3446]; rw [c3496, c3423]; first | exact f_10 | exact hQ16) (by rw [c3521, c3447]; rw [c3522, c3448]; rw [c3496, c3423]; first | exact f_11 | exact hQ17) (by rw [c3523, c3449]; rw [c3524, c3450]; rw [c3496, c3423]; first | exact f_12 | exact hQ18) (by rw [c3525, c3451]; rw [c3526, c3452]; rw [c3496, c3423]; first | exact f_13 | exact hQ19) (by rw [c3527, c3453]; rw [c3528, c3454]; rw [c3496, c3423]; first | exact f_14 | exact hQ20) (by rw [c3529, c3455]; rw [c3530, c3456]; rw [c3498, c3425]; first | exact f_15 | exact hQ24) (by rw [c3531, c3457]; rw [c3532, c3458]; rw [c3498, c3425]; first | exact f_16 | exact hQ25) (by rw [c3533, c3459]; rw [c3534, c3460]; rw [c3498, c3425]; first | exact f_17 | exact hQ23) (by rw [c3535, c3461]; rw [c3536, c3462]; rw [c3498, c3425]; first | exact f_18 | exact hQ26) (by rw [c3537, c3463]; rw [c3538, c3464]; rw [c3498, c3425]; first | exact f_19 | exact hQ27) (by rw [c3539, c3465]; rw [c3540, c3466]; rw [c3500, c3427]; first | exact f_20 | exact hQ36) (by rw [c3541, c3467]; rw [c3542, c3468]; rw [c3500, c3427]; first | exact f_21 | exact hQ37) (by rw [c3543, c3469]; rw [c3544, c3470]; rw [c3545, c3471]; rw [c3546, c3472]; exact f_22) (by rw [c3547, c3473]; rw [c3548, c3474]; rw [c3549, c3475]; rw [c3550, c3476]; exact f_23) (by rw [c3551, c3477]; rw [c3552, c3478]; exact f_24) (by rw [c3553, c3479]; rw [c3546, c3472]; rw [c3554, c3480]; rw [c3556, c3482]; rw [c3555, c3481]; rw [c3557, c3483]; rw [c3545, c3471]; exact f_25) (by omega)
                                                · clear h3410
                                                  refine sf_sw1 sf_c22 (fun h3559 => ?_) (fun h3559 => ?_)
                                                  · refine sf_aload rfl ?_
                                                    refine sf_aload rfl ?_
                                                    refine sf_iload rfl ?_
                                                    refine sf_iconst sf_c1 (fun z3560 ez3560 => ?_)
                                                    refine sf_iadd (by omega) (fun v3561 ev3561 => ?_)
                                                    refine sf_sldk (x := x4) (k := 1) (by omega) (by omega) (by omega) ?_
                                                    clear ev3561 ez3560
                                                    refine sf_aload rfl ?_
                                                    refine sf_iload rfl ?_
                                                    refine sf_iconst sf_c2 (fun z3562 ez3562 => ?_)
                                                    refine sf_iadd (by omega) (fun v3563 ev3563 => ?_)
                                                    refine sf_sldk (x := x4) (k := 2) (by omega) (by omega) (by omega) ?_
                                                    clear ev3563 ez3562
                                                    refine sf_aload rfl ?_
                                                    refine sf_callv4 rfl (by omega) (by omega) ?_
                                                    refine sc_W_account_0_130 I_w  (fun v3564 w3565 Iw3565 tw3565 lv3564 uv3564 => ?_)
                                                    have c3567 := sf_mf tw3565 (p := 1) (j := 0) rfl
                                                    have c3568 := sf_mf tw3565 (p := 71) (j := 1) rfl
                                                    have c3569 := sf_mf tw3565 (p := 1) (j := 5) rfl
                                                    have c3570 := sf_mf tw3565 (p := 71) (j := 5) rfl
                                                    have c3571 := sf_mf tw3565 (p := 13) (j := 1) rfl
                                                    have c3572 := sf_mf tw3565 (p := 71) (j := 10) rfl
                                                    have c3573 := sf_mf tw3565 (p := 21) (j := 1) rfl
                                                    have c3574 := sf_mf tw3565 (p := 71) (j := 18) rfl
                                                    have c3575 := sf_mf tw3565 (p := 35) (j := 0) rfl
                                                    have c3576 := sf_mf tw3565 (p := 71) (j := 35) rfl
                                                    have c3577 := sf_ma tw3565 (p := 3) rfl
                                                    have c3578 := sf_ma tw3565 (p := 72) rfl
                                                    have c3579 := sf_mg tw3565 (p := 10) rfl
                                                    have c3580 := sf_ma tw3565 (p := 93) rfl
                                                    have c3581 := sf_ma tw3565 (p := 2) rfl
                                                    have c3582 := sf_ma tw3565 (p := 6) rfl
                                                    have c3583 := sf_ma tw3565 (p := 75) rfl
                                                    have c3584 := sf_ma tw3565 (p := 7) rfl
                                                    have c3585 := sf_ma tw3565 (p := 76) rfl
                                                    have c3586 := sf_ma tw3565 (p := 8) rfl
                                                    have c3587 := sf_ma tw3565 (p := 77) rfl
                                                    have c3588 := sf_ma tw3565 (p := 9) rfl
                                                    have c3589 := sf_ma tw3565 (p := 78) rfl
                                                    have c3590 := sf_ma tw3565 (p := 14) rfl
                                                    have c3591 := sf_ma tw3565 (p := 79) rfl
                                                    have c3592 := sf_ma tw3565 (p := 15) rfl
                                                    have c3593 := sf_ma tw3565 (p := 80) rfl
                                                    have c3594 := sf_ma tw3565 (p := 16) rfl
                                                    have c3595 := sf_ma tw3565 (p := 81) rfl
                                                    have c3596 := sf_ma tw3565 (p := 17) rfl
                                                    have c3597 := sf_ma tw3565 (p := 82) rfl
                                                    have c3598 := sf_ma tw3565 (p := 18) rfl
                                                    have c3599 := sf_ma tw3565 (p := 83) rfl
                                                    have c3600 := sf_ma tw3565 (p := 19) rfl
                                                    have c3601 := sf_ma tw3565 (p := 84) rfl
                                                    have c3602 := sf_ma tw3565 (p := 20) rfl
                                                    have c3603 := sf_ma tw3565 (p := 85) rfl
                                                    have c3604 := sf_ma tw3565 (p := 24) rfl
                                                    have c3605 := sf_ma tw3565 (p := 86) rfl
                                                    have c3606 := sf_ma tw3565 (p := 25) rfl
                                                    have c3607 := sf_ma tw3565 (p := 87) rfl
                                                    have c3608 := sf_ma tw3565 (p := 23) rfl
                                                    have c3609 := sf_ma tw3565 (p := 88) rfl
                                                    have c3610 := sf_ma tw3565 (p := 26) rfl
                                                    have c3611 := sf_ma tw3565 (p := 89) rfl
                                                    have c3612 := sf_ma tw3565 (p := 27) rfl
                                                    have c3613 := sf_ma tw3565 (p := 90) rfl
                                                    have c3614 := sf_ma tw3565 (p := 36) rfl
                                                    have c3615 := sf_ma tw3565 (p := 102) rfl
                                                    have c3616 := sf_ma tw3565 (p := 37) rfl
                                                    have c3617 := sf_ma tw3565 (p := 103) rfl
                                                    have c3618 := sf_ma tw3565 (p := 34) rfl
                                                    have c3619 := sf_ma tw3565 (p := 30) rfl
                                                    have c3620 := sf_ma tw3565 (p := 94) rfl
                                                    have c3621 := sf_ma tw3565 (p := 95) rfl
                                                    have c3622 := sf_ma tw3565 (p := 4) rfl
                                                    have c3623 := sf_ma tw3565 (p := 73) rfl
                                                    have c3624 := sf_ma tw3565 (p := 5) rfl
                                                    have c3625 := sf_ma tw3565 (p := 74) rfl
                                                    have c3626 := sf_ma tw3565 (p := 29) rfl
                                                    have c3627 := sf_ma tw3565 (p := 98) rfl
                                                    have c3628 := sf_mg tw3565 (p := 31) rfl
                                                    have c3629 := sf_mg tw3565 (p := 32) rfl
                                                    have c3630 := sf_mg tw3565 (p := 33) rfl
                                                    have c3631 := sf_ma tw3565 (p := 96) rfl
                                                    have c3632 := sf_ma tw3565 (p := 97) rfl
                                                    refine sf_istore (L' := [(0, .inl (.ref 100000)), (1, .inl (.ref 0)), (2, .inl (.ref 71)), (3, .inl (.ref 130)), (4, .inl (.int x4))]) rfl ?_
                                                    refine sf_aload rfl ?_
                                                    refine sf_aload rfl ?_
                                                    refine sf_iload rfl ?_
                                                    refine sf_iconst sf_c1 (fun z3633 ez3633 => ?_)
                                                    refine sf_iadd (by omega) (fun v3634 ev3634 => ?_)
                                                    refine sf_sldk (x := x4) (k := 1) (by omega) (by omega) (by omega) ?_
                                                    clear ev3634 ez3633
                                                    refine sf_aload rfl ?_
                                                    refine sf_iload rfl ?_
                                                    refine sf_iconst sf_c2 (fun z3635 ez3635 => ?_)
                                                    refine sf_iadd (by omega) (fun v3636 ev3636 => ?_)
                                                    refine sf_sldk (x := x4) (k := 2) (by omega) (by omega) (by omega) ?_
                                                    clear ev3636 ez3635
                                                    refine sf_callv3 rfl (by omega) (by omega) ?_
                                                    refine sf_rv Iw3565 rfl ?_
                                                    refine sc_M_account Iw3565  (fun v3637 w3638 Iw3638 tw3638 => ?_)
                                                    have c3640 := sf_mf tw3638 (p := 1) (j := 0) rfl
                                                    have c3641 := sf_mf tw3638 (p := 71) (j := 1) rfl
                                                    have c3642 := sf_mf tw3638 (p := 1) (j := 5) rfl
                                                    have c3643 := sf_mf tw3638 (p := 71) (j := 5) rfl
                                                    have c3644 := sf_mf tw3638 (p := 13) (j := 1) rfl
                                                    have c3645 := sf_mf tw3638 (p := 71) (j := 10) rfl
                                                    have c3646 := sf_mf tw3638 (p := 21) (j := 1) rfl
                                                    have c3647 := sf_mf tw3638 (p := 71) (j := 18) rfl
                                                    have c3648 := sf_mf tw3638 (p := 35) (j := 0) rfl
                                                    have c3649 := sf_mf tw3638 (p := 71) (j := 35) rfl
                                                    have c3650 := sf_ma tw3638 (p := 3) rfl
                                                    have c3651 := sf_ma tw3638 (p := 72) rfl
                                                    have c3652 := sf_mg tw3638 (p := 10) rfl
                                                    have c3653 := sf_ma tw3638 (p := 93) rfl
                                                    have c3654 := sf_mL tw3638 (p := 130) rfl
                                                    have c3655 := sf_ma tw3638 (p := 2) rfl
                                                    have c3656 := sf_ma tw3638 (p := 6) rfl
                                                    have c3657 := sf_ma tw3638 (p := 75) rfl
                                                    have c3658 := sf_ma tw3638 (p := 7) rfl
                                                    have c3659 := sf_ma tw3638 (p := 76) rfl
                                                    have c3660 := sf_ma tw3638 (p := 8) rfl
                                                    have c3661 := sf_ma tw3638 (p := 77) rfl
                                                    have c3662 := sf_ma tw3638 (p := 9) rfl
                                                    have c3663 := sf_ma tw3638 (p := 78) rfl
                                                    have c3664 := sf_ma tw3638 (p := 14) rfl
                                                    have c3665 := sf_ma tw3638 (p := 79) rfl
                                                    have c3666 := sf_ma tw3638 (p := 15) rfl
                                                    have c3667 := sf_ma tw3638 (p := 80) rfl
                                                    have c3668 := sf_ma tw3638 (p := 16) rfl
                                                    have c3669 := sf_ma tw3638 (p := 81) rfl
                                                    have c3670 := sf_ma tw3638 (p := 17) rfl
                                                    have c3671 := sf_ma tw3638 (p := 82) rfl
                                                    have c3672 := sf_ma tw3638 (p := 18) rfl
                                                    have c3673 := sf_ma tw3638 (p := 83) rfl
                                                    have c3674 := sf_ma tw3638 (p := 19) rfl
                                                    have c3675 := sf_ma tw3638 (p := 84) rfl
                                                    have c3676 := sf_ma tw3638 (p := 20) rfl
                                                    have c3677 := sf_ma tw3638 (p := 85) rfl
                                                    have c3678 := sf_ma tw3638 (p := 24) rfl
                                                    have c3679 := sf_ma tw3638 (p := 86) rfl
                                                    have c3680 := sf_ma tw3638 (p := 25) rfl
                                                    have c3681 := sf_ma tw3638 (p := 87) rfl
                                                    have c3682 := sf_ma tw3638 (p := 23) rfl
                                                    have c3683 := sf_ma tw3638 (p := 88) rfl
                                                    have c3684 := sf_ma tw3638 (p := 26) rfl
                                                    have c3685 := sf_ma tw3638 (p := 89) rfl
                                                    have c3686 := sf_ma tw3638 (p := 27) rfl
                                                    have c3687 := sf_ma tw3638 (p := 90) rfl
                                                    have c3688 := sf_ma tw3638 (p := 36) rfl
                                                    have c3689 := sf_ma tw3638 (p := 102) rfl
                                                    have c3690 := sf_ma tw3638 (p := 37) rfl
                                                    have c3691 := sf_ma tw3638 (p := 103) rfl
                                                    have c3692 := sf_ma tw3638 (p := 34) rfl
                                                    have c3693 := sf_ma tw3638 (p := 30) rfl
                                                    have c3694 := sf_ma tw3638 (p := 94) rfl
                                                    have c3695 := sf_ma tw3638 (p := 95) rfl
                                                    have c3696 := sf_ma tw3638 (p := 4) rfl
                                                    have c3697 := sf_ma tw3638 (p := 73) rfl
                                                    have c3698 := sf_ma tw3638 (p := 5) rfl
                                                    have c3699 := sf_ma tw3638 (p := 74) rfl
                                                    have c3700 := sf_ma tw3638 (p := 29) rfl
                                                    have c3701 := sf_ma tw3638 (p := 98) rfl
                                                    have c3702 := sf_mg tw3638 (p := 31) rfl
                                                    have c3703 := sf_mg tw3638 (p := 32) rfl
                                                    have c3704 := sf_mg tw3638 (p := 33) rfl
                                                    have c3705 := sf_ma tw3638 (p := 96) rfl
                                                    have c3706 := sf_ma tw3638 (p := 97) rfl
                                                    refine sf_lstore (L' := [(5, .inl (.int v3564)), (0, .inl (.ref 100000)), (1, .inl (.ref 0)), (2, .inl (.ref 71)), (3, .inl (.ref 130)), (4, .inl (.int x4))]) rfl ?_
                                                    show kt_W_law_1428 N xs K _ _ _ _ _
                                                    refine sf_iinc (L' := [(6, .inl (.long v3637)), (5, .inl (.int v3564)), (0, .inl (.ref 100000)), (1, .inl (.ref 0)), (2, .inl (.ref 71)), (3, .inl (.ref 130))]) (x := x4) sf_c8 rfl rfl (by omega) (fun v3707 ev3707 => ?_)
                                                    refine sf_can (L' := [(0, .inl (.ref 100000)), (1, .inl (.ref 0)), (2, .inl (.ref 71)), (3, .inl (.ref 130)), (4, .inl (.int v3707))]) rfl ?_
                                                    exact ih _ _ _ _ Iw3638 (by omega) (by omega) (by omega) (by omega) (by rw [c3640, c3567]; rw [c3641, c3568]; rw [c3642, c3569]; rw [c3643, c3570]; rw [c3644, c3571]; rw [c3645, c3572]; rw [c3646, c3573]; rw [c3647, c3574]; rw [c3648, c3575]; rw [c3649, c3576]; omega) (by rw [c3650, c3577]; rw [c3651, c3578]; rw [c3641, c3568]; first | exact f_1 | exact hJ) (by rw [c3652, c3579]; rw [c3653, c3580]; first | exact f_2 | exact hK2) (by rw [c3655, c3581]; rw [c3651, c3578]; rw [c3641, c3568]; first | exact f_3 | exact hQ2) (by rw [c3656, c3582]; rw [c3657, c3583]; rw [c3643, c3570]; first | exact f_4 | exact hQ6) (by rw [c3658, c3584]; rw [c3659, c3585]; rw [c3643, c3570]; first | exact f_5 | exact hQ7) (by rw [c3660, c3586]; rw [c3661, c3587]; rw [c3643, c3570]; first | exact f_6 | exact hQ8) (by rw [c3662, c3588]; rw [c3663, c3589]; rw [c3643, c3570]; first | exact f_7 | exact hQ9) (by rw [c3664, c3590]; rw [c3665, c3591]; rw [c3645, c3572]; first | exact f_8 | exact hQ14) (by rw [c3666, c3592]; rw [c3667, c3593]; rw [c3645, c3572]; first | exact f_9 | exact hQ15) (by rw [c3668, c3594]; rw [c3669, c3595]; rw [c3645, c3572]; first | exact f_10 | exact hQ16) (by rw [c3670, c3596]; rw [c3671, c3597]; rw [c3645, c3572]; first | exact f_11 | exact hQ17) (by rw [c3672, c3598]; rw [c3673, c3599]; rw [c3645, c3572]; first | exact f_12 | exact hQ18) (by rw [c3674, c3600]; rw [c3675, c3601]; rw [c3645, c3572]; first | exact f_13 | exact hQ19) (by rw [c3676, c3602]; rw [c3677, c3603]; rw [c3645, c3572]; first | exact f_14 | exact hQ20) (by rw [c3678, c3604]; rw [c3679, c3605]; rw [c3647, c3574]; first | exact f_15 | exact hQ24) (by rw [c3680, c3606]; rw [c3681, c3607]; rw [c3647, c3574]; first | exact f_16 | exact hQ25) (by rw [c3682, c3608]; rw [c3683, c3609]; rw [c3647, c3574]; first | exact f_17 | exact hQ23) (by rw [c3684, c3610]; rw [c3685, c3611]; rw [c3647, c3574]; first | exact f_18 | exact hQ26) (by rw [c3686, c3612]; rw [c3687, c3613]; rw [c3647, c3574]; first | exact f_19 | exact hQ27) (by rw [c3688, c3614]; rw [c3689, c3615]; rw [c3649, c3576]; first | exact f_20 | exact hQ36) (by rw [c3690, c3616]; rw [c3691, c3617]; rw [c3649, c3576]; first | exact f_21 | exact hQ37) (by rw [c3692, c3618]; rw [c3693, c3619]; rw [c3694, c3620]; rw [c3695, c3621]; exact f_22) (by rw [c3696, c3622]; rw [c3697, c3623]; rw [c3698, c3624]; rw [c3699, c3625]; exact f_23) (by rw [c3700, c3626]; rw [c3701, c3627]; exact f_24) (by rw [c3702, c3628]; rw [c3695, c3621]; rw [c3703, c3629]; rw [c3705, c3631]; rw [c3704, c3630]; rw [c3706, c3632]; rw [c3694, c3620]; exact f_25) (by omega)
                                                  · clear h3559
                                                    refine sf_sw1 sf_c23 (fun h3708 => ?_) (fun h3708 => ?_)
                                                    · refine sf_aload rfl ?_
                                                      refine sf_aload rfl ?_
                                                      refine sf_iload rfl ?_
                                                      refine sf_iconst sf_c1 (fun z3709 ez3709 => ?_)
                                                      refine sf_iadd (by omega) (fun v3710 ev3710 => ?_)
                                                      refine sf_sldk (x := x4) (k := 1) (by omega) (by omega) (by omega) ?_
                                                      clear ev3710 ez3709
                                                      refine sf_aload rfl ?_
                                                      refine sf_callv3 rfl (by omega) (by omega) ?_
                                                      refine sc_W_books_0_130 I_w  (fun v3711 w3712 Iw3712 tw3712 lv3711 uv3711 => ?_)
                                                      have c3714 := sf_mf tw3712 (p := 1) (j := 0) rfl
                                                      have c3715 := sf_mf tw3712 (p := 71) (j := 1) rfl
                                                      have c3716 := sf_mf tw3712 (p := 1) (j := 5) rfl
                                                      have c3717 := sf_mf tw3712 (p := 71) (j := 5) rfl
                                                      have c3718 := sf_mf tw3712 (p := 13) (j := 1) rfl
                                                      have c3719 := sf_mf tw3712 (p := 71) (j := 10) rfl
                                                      have c3720 := sf_mf tw3712 (p := 21) (j := 1) rfl
                                                      have c3721 := sf_mf tw3712 (p := 71) (j := 18) rfl
                                                      have c3722 := sf_mf tw3712 (p := 35) (j := 0) rfl
                                                      have c3723 := sf_mf tw3712 (p := 71) (j := 35) rfl
                                                      have c3724 := sf_ma tw3712 (p := 3) rfl
                                                      have c3725 := sf_ma tw3712 (p := 72) rfl
                                                      have c3726 := sf_mg tw3712 (p := 10) rfl
                                                      have c3727 := sf_ma tw3712 (p := 93) rfl
                                                      have c3728 := sf_ma tw3712 (p := 2) rfl
                                                      have c3729 := sf_ma tw3712 (p := 6) rfl
                                                      have c3730 := sf_ma tw3712 (p := 75) rfl
                                                      have c3731 := sf_ma tw3712 (p := 7) rfl
                                                      have c3732 := sf_ma tw3712 (p := 76) rfl
                                                      have c3733 := sf_ma tw3712 (p := 8) rfl
                                                      have c3734 := sf_ma tw3712 (p := 77) rfl
                                                      have c3735 := sf_ma tw3712 (p := 9) rfl
                                                      have c3736 := sf_ma tw3712 (p := 78) rfl
                                                      have c3737 := sf_ma tw3712 (p := 14) rfl
                                                      have c3738 := sf_ma tw3712 (p := 79) rfl
                                                      have c3739 := sf_ma tw3712 (p := 15) rfl
                                                      have c3740 := sf_ma tw3712 (p := 80) rfl
                                                      have c3741 := sf_ma tw3712 (p := 16) rfl
                                                      have c3742 := sf_ma tw3712 (p := 81) rfl
                                                      have c3743 := sf_ma tw3712 (p := 17) rfl
                                                      have c3744 := sf_ma tw3712 (p := 82) rfl
                                                      have c3745 := sf_ma tw3712 (p := 18) rfl
                                                      have c3746 := sf_ma tw3712 (p := 83) rfl
                                                      have c3747 := sf_ma tw3712 (p := 19) rfl
                                                      have c3748 := sf_ma tw3712 (p := 84) rfl
                                                      have c3749 := sf_ma tw3712 (p := 20) rfl
                                                      have c3750 := sf_ma tw3712 (p := 85) rfl
                                                      have c3751 := sf_ma tw3712 (p := 24) rfl
                                                      have c3752 := sf_ma tw3712 (p := 86) rfl
                                                      have c3753 := sf_ma tw3712 (p := 25) rfl
                                                      have c3754 := sf_ma tw3712 (p := 87) rfl
                                                      have c3755 := sf_ma tw3712 (p := 23) rfl
                                                      have c3756 := sf_ma tw3712 (p := 88) rfl
                                                      have c3757 := sf_ma tw3712 (p := 26) rfl
                                                      have c3758 := sf_ma tw3712 (p := 89) rfl
                                                      have c3759 := sf_ma tw3712 (p := 27) rfl
                                                      have c3760 := sf_ma tw3712 (p := 90) rfl
                                                      have c3761 := sf_ma tw3712 (p := 36) rfl
                                                      have c3762 := sf_ma tw3712 (p := 102) rfl
                                                      have c3763 := sf_ma tw3712 (p := 37) rfl
                                                      have c3764 := sf_ma tw3712 (p := 103) rfl
                                                      have c3765 := sf_ma tw3712 (p := 34) rfl
                                                      have c3766 := sf_ma tw3712 (p := 30) rfl
                                                      have c3767 := sf_ma tw3712 (p := 94) rfl
                                                      have c3768 := sf_ma tw3712 (p := 95) rfl
                                                      have c3769 := sf_ma tw3712 (p := 4) rfl
                                                      have c3770 := sf_ma tw3712 (p := 73) rfl
                                                      have c3771 := sf_ma tw3712 (p := 5) rfl
                                                      have c3772 := sf_ma tw3712 (p := 74) rfl
                                                      have c3773 := sf_ma tw3712 (p := 29) rfl
                                                      have c3774 := sf_ma tw3712 (p := 98) rfl
                                                      have c3775 := sf_mg tw3712 (p := 31) rfl
                                                      have c3776 := sf_mg tw3712 (p := 32) rfl
                                                      have c3777 := sf_mg tw3712 (p := 33) rfl
                                                      have c3778 := sf_ma tw3712 (p := 96) rfl
                                                      have c3779 := sf_ma tw3712 (p := 97) rfl
                                                      refine sf_istore (L' := [(0, .inl (.ref 100000)), (1, .inl (.ref 0)), (2, .inl (.ref 71)), (3, .inl (.ref 130)), (4, .inl (.int x4))]) rfl ?_
                                                      refine sf_aload rfl ?_
                                                      refine sf_aload rfl ?_
                                                      refine sf_iload rfl ?_
                                                      refine sf_iconst sf_c1 (fun z3780 ez3780 => ?_)
                                                      refine sf_iadd (by omega) (fun v3781 ev3781 => ?_)
                                                      refine sf_sldk (x := x4) (k := 1) (by omega) (by omega) (by omega) ?_
                                                      clear ev3781 ez3780
                                                      refine sf_callv2 rfl (by omega) (by omega) ?_
                                                      refine sf_rv Iw3712 rfl ?_
                                                      refine sc_M_books Iw3712  (fun v3782 w3783 Iw3783 tw3783 => ?_)
                                                      have c3785 := sf_mf tw3783 (p := 1) (j := 0) rfl
                                                      have c3786 := sf_mf tw3783 (p := 71) (j := 1) rfl
                                                      have c3787 := sf_mf tw3783 (p := 1) (j := 5) rfl
                                                      have c3788 := sf_mf tw3783 (p := 71) (j := 5) rfl
                                                      have c3789 := sf_mf tw3783 (p := 13) (j := 1) rfl
                                                      have c3790 := sf_mf tw3783 (p := 71) (j := 10) rfl
                                                      have c3791 := sf_mf tw3783 (p := 21) (j := 1) rfl
                                                      have c3792 := sf_mf tw3783 (p := 71) (j := 18) rfl
                                                      have c3793 := sf_mf tw3783 (p := 35) (j := 0) rfl
                                                      have c3794 := sf_mf tw3783 (p := 71) (j := 35) rfl
                                                      have c3795 := sf_ma tw3783 (p := 3) rfl
                                                      have c3796 := sf_ma tw3783 (p := 72) rfl
                                                      have c3797 := sf_mg tw3783 (p := 10) rfl
                                                      have c3798 := sf_ma tw3783 (p := 93) rfl
                                                      have c3799 := sf_mL tw3783 (p := 130) rfl
                                                      have c3800 := sf_ma tw3783 (p := 2) rfl
                                                      have c3801 := sf_ma tw3783 (p := 6) rfl
                                                      have c3802 := sf_ma tw3783 (p := 75) rfl
                                                      have c3803 := sf_ma tw3783 (p := 7) rfl
                                                      have c3804 := sf_ma tw3783 (p := 76) rfl
                                                      have c3805 := sf_ma tw3783 (p := 8) rfl
                                                      have c3806 := sf_ma tw3783 (p := 77) rfl
                                                      have c3807 := sf_ma tw3783 (p := 9) rfl
                                                      have c3808 := sf_ma tw3783 (p := 78) rfl
                                                      have c3809 := sf_ma tw3783 (p := 14) rfl
                                                      have c3810 := sf_ma tw3783 (p := 79) rfl
                                                      have c3811 := sf_ma tw3783 (p := 15) rfl
                                                      have c3812 := sf_ma tw3783 (p := 80) rfl
                                                      have c3813 := sf_ma tw3783 (p := 16) rfl
                                                      have c3814 := sf_ma tw3783 (p := 81) rfl
                                                      have c3815 := sf_ma tw3783 (p := 17) rfl
                                                      have c3816 := sf_ma tw3783 (p := 82) rfl
                                                      have c3817 := sf_ma tw3783 (p := 18) rfl
                                                      have c3818 := sf_ma tw3783 (p := 83) rfl
                                                      have c3819 := sf_ma tw3783 (p := 19) rfl
                                                      have c3820 := sf_ma tw3783 (p := 84) rfl
                                                      have c3821 := sf_ma tw3783 (p := 20) rfl
                                                      have c3822 := sf_ma tw3783 (p := 85) rfl
                                                      have c3823 := sf_ma tw3783 (p := 24) rfl
                                                      have c3824 := sf_ma tw3783 (p := 86) rfl
                                                      have c3825 := sf_ma tw3783 (p := 25) rfl
                                                      have c3826 := sf_ma tw3783 (p := 87) rfl
                                                      have c3827 := sf_ma tw3783 (p := 23) rfl
                                                      have c3828 := sf_ma tw3783 (p := 88) rfl
                                                      have c3829 := sf_ma tw3783 (p := 26) rfl
                                                      have c3830 := sf_ma tw3783 (p := 89) rfl
                                                      have c3831 := sf_ma tw3783 (p := 27) rfl
                                                      have c3832 := sf_ma tw3783 (p := 90) rfl
                                                      have c3833 := sf_ma tw3783 (p := 36) rfl
                                                      have c3834 := sf_ma tw3783 (p := 102) rfl
                                                      have c3835 := sf_ma tw3783 (p := 37) rfl
                                                      have c3836 := sf_ma tw3783 (p := 103) rfl
                                                      have c3837 := sf_ma tw3783 (p := 34) rfl
                                                      have c3838 := sf_ma tw3783 (p := 30) rfl
                                                      have c3839 := sf_ma tw3783 (p := 94) rfl
                                                      have c3840 := sf_ma tw3783 (p := 95) rfl
                                                      have c3841 := sf_ma tw3783 (p := 4) rfl
                                                      have c3842 := sf_ma tw3783 (p := 73) rfl
                                                      have c3843 := sf_ma tw3783 (p := 5) rfl
                                                      have c3844 := sf_ma tw3783 (p := 74) rfl
                                                      have c3845 := sf_ma tw3783 (p := 29) rfl
                                                      have c3846 := sf_ma tw3783 (p := 98) rfl
                                                      have c3847 := sf_mg tw3783 (p := 31) rfl
                                                      have c3848 := sf_mg tw3783 (p := 32) rfl
                                                      have c3849 := sf_mg tw3783 (p := 33) rfl
                                                      have c3850 := sf_ma tw3783 (p := 96) rfl
                                                      have c3851 := sf_ma tw3783 (p := 97) rfl
                                                      refine sf_lstore (L' := [(5, .inl (.int v3711)), (0, .inl (.ref 100000)), (1, .inl (.ref 0)), (2, .inl (.ref 71)), (3, .inl (.ref 130)), (4, .inl (.int x4))]) rfl ?_
                                                      show kt_W_law_1428 N xs K _ _ _ _ _
                                                      refine sf_iinc (L' := [(6, .inl (.long v3782)), (5, .inl (.int v3711)), (0, .inl (.ref 100000)), (1, .inl (.ref 0)), (2, .inl (.ref 71)), (3, .inl (.ref 130))]) (x := x4) sf_c8 rfl rfl (by omega) (fun v3852 ev3852 => ?_)
                                                      refine sf_can (L' := [(0, .inl (.ref 100000)), (1, .inl (.ref 0)), (2, .inl (.ref 71)), (3, .inl (.ref 130)), (4, .inl (.int v3852))]) rfl ?_
                                                      exact ih _ _ _ _ Iw3783 (by omega) (by omega) (by omega) (by omega) (by rw [c3785, c3714]; rw [c3786, c3715]; rw [c3787, c3716]; rw [c3788, c3717]; rw [c3789, c3718]; rw [c3790, c3719]; rw [c3791, c3720]; rw [c3792, c3721]; rw [c3793, c3722]; rw [c3794, c3723]; omega) (by rw [c3795, c3724]; rw [c3796, c3725]; rw [c3786, c3715]; first | exact f_1 | exact hJ) (by rw [c3797, c3726]; rw [c3798, c3727]; first | exact f_2 | exact hK2) (by rw [c3800, c3728]; rw [c3796, c3725]; rw [c3786, c3715]; first | exact f_3 | exact hQ2) (by rw [c3801, c3729]; rw [c3802, c3730]; rw [c3788, c3717]; first | exact f_4 | exact hQ6) (by rw [c3803, c3731]; rw [c3804, c3732]; rw [c3788, c3717]; first | exact f_5 | exact hQ7) (by rw [c3805, c3733]; rw [c3806, c3734]; rw [c3788, c3717]; first | exact f_6 | exact hQ8) (by rw [c3807, c3735]; rw [c3808, c3736]; rw [c3788, c3717]; first | exact f_7 | exact hQ9) (by rw [c3809, c3737]; rw [c3810, c3738]; rw [c3790, c3719]; first | exact f_8 | exact hQ14) (by rw [c3811, c3739]; rw [c3812, c3740]; rw [c3790, c3719]; first | exact f_9 | exact hQ15) (by rw [c3813, c3741]; rw [c3814, c3742]; rw [c3790, c3719]; first | exact f_10 | exact hQ16) (by rw [c3815, c3743]; rw [c3816, c3744]; rw [c3790, c3719]; first | exact f_11 | exact hQ17) (by rw [c3817, c3745]; rw [c3818, c3746]; rw [c3790, c3719]; first | exact f_12 | exact hQ18) (by rw [c3819, c3747]; rw [c3820, c3748]; rw [c3790, c3719]; first | exact f_13 | exact hQ19) (by rw [c3821, c3749]; rw [c3822, c3750]; rw [c3790, c3719]; first | exact f_14 | exact hQ20) (by rw [c3823, c3751]; rw [c3824, c3752]; rw [c3792, c3721]; first | exact f_15 | exact hQ24) (by rw [c3825, c3753]; rw [c3826, c3754]; rw [c3792, c3721]; first | exact f_16 | exact hQ25) (by rw [c3827, c3755]; rw [c3828, c3756]; rw [c3792, c3721]; first | exact f_17 | exact hQ23) (by rw [c3829, c3757]; rw [c3830, c3758]; rw [c3792, c3721]; first | exact f_18 | exact hQ26) (by rw [c3831, c3759]; rw [c3832, c3760]; rw [c3792, c3721]; first | exact f_19 | exact hQ27) (by rw [c3833, c3761]; rw [c3834, c3762]; rw [c3794, c3723]; first | exact f_20 | exact hQ36) (by rw [c3835, c3763]; rw [c3836, c3764]; rw [c3794, c3723]; first | exact f_21 | exact hQ37) (by rw [c3837, c3765]; rw [c3838, c3766]; rw [c3839, c3767]; rw [c3840, c3768]; exact f_22) (by rw [c3841, c3769]; rw [c3842, c3770]; rw [c3843, c3771]; rw [c3844, c3772]; exact f_23) (by rw [c3845, c3773]; rw [c3846, c3774]; exact f_24) (by rw [c3847, c3775]; rw [c3840, c3768]; rw [c3848, c3776]; rw [c3850, c3778]; rw [c3849, c3777]; rw [c3851, c3779]; rw [c3839, c3767]; exact f_25) (by omega)
                                                    · clear h3708
                                                      refine sf_sw0 ?_
                                                      refine sf_iinc (L' := [(0, .inl (.ref 100000)), (1, .inl (.ref 0)), (2, .inl (.ref 71)), (3, .inl (.ref 130))]) (x := x4) sf_c8 rfl rfl (by omega) (fun v3853 ev3853 => ?_)
                                                      refine sf_can (L' := [(0, .inl (.ref 100000)), (1, .inl (.ref 0)), (2, .inl (.ref 71)), (3, .inl (.ref 130)), (4, .inl (.int v3853))]) rfl ?_
                                                      exact ih _ _ _ _ I_w (by omega) (by omega) (by omega) (by omega) (by omega) (by first | exact f_1 | exact hJ) (by first | exact f_2 | exact hK2) (by first | exact f_3 | exact hQ2) (by first | exact f_4 | exact hQ6) (by first | exact f_5 | exact hQ7) (by first | exact f_6 | exact hQ8) (by first | exact f_7 | exact hQ9) (by first | exact f_8 | exact hQ14) (by first | exact f_9 | exact hQ15) (by first | exact f_10 | exact hQ16) (by first | exact f_11 | exact hQ17) (by first | exact f_12 | exact hQ18) (by first | exact f_13 | exact hQ19) (by first | exact f_14 | exact hQ20) (by first | exact f_15 | exact hQ24) (by first | exact f_16 | exact hQ25) (by first | exact f_17 | exact hQ23) (by first | exact f_18 | exact hQ26) (by first | exact f_19 | exact hQ27) (by first | exact f_20 | exact hQ36) (by first | exact f_21 | exact hQ37) (by exact f_22) (by exact f_23) (by exact f_24) (by exact f_25) (by omega)
