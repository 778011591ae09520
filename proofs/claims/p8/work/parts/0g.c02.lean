def sm_L_add : List Nat := [60, 61, 62, 64, 65, 66, 7000]
set_option maxRecDepth 100000 in
set_option maxHeartbeats 4000000 in
theorem sc_L_add {w0 : wq_W} (hI0 : sf_I w0) {rt : Option wq_V → wq_W → Prop} {xt : Nat → wq_W → Prop} {a_ofGood : Int32} {a_ofUnits : Int32} {a_ofDuty : Int64} {a_isHeld : Int32} {a_isByWorking : Int32} (p0 : 0 ≤ a_isHeld.toInt) (p1 : a_isHeld.toInt ≤ 1) (p2 : 0 ≤ a_isByWorking.toInt) (p3 : a_isByWorking.toInt ≤ 1) (p4 : (sf_f w0 60 0).toInt < 40) (hR : ∀ (r : Int32) (w : wq_W), sf_I w → sf_m sm_L_add w0 w → 0 ≤ r.toInt → r.toInt ≤ 40 → ((sf_f w 60 0).toInt = (sf_f w0 60 0).toInt + 1) → rt (some (.inl (.int r))) w) : ks_L_add [.inl (.ref 60), .inl (.int a_ofGood), .inl (.int a_ofUnits), .inl (.long a_ofDuty), .inl (.int a_isHeld), .inl (.int a_isByWorking)] w0 rt xt := by
  have hs0 : sf_m sm_L_add w0 w0 := sf_m0
  refine sf_sp (L := [(0, .inl (.ref 60)), (1, .inl (.int a_ofGood)), (2, .inl (.int a_ofUnits)), (3, .inl (.long a_ofDuty)), (5, .inl (.int a_isHeld)), (6, .inl (.int a_isByWorking))]) rfl rfl ?_
  refine sf_aload rfl ?_
  refine sf_geti hI0 rfl rfl (fun v1 lv1 uv1 ev1 => ?_)
  refine sf_istore (L' := [(0, .inl (.ref 60)), (1, .inl (.int a_ofGood)), (2, .inl (.int a_ofUnits)), (3, .inl (.long a_ofDuty)), (5, .inl (.int a_isHeld)), (6, .inl (.int a_isByWorking))]) rfl ?_
  refine sf_aload rfl ?_
  refine sf_getr hI0 rfl rfl ?_
  refine sf_iload rfl ?_
  refine sf_iload rfl ?_
  refine sf_iast hI0 hs0 rfl (by omega) (sf_bd _) rfl rfl (fun w2 Iw2 sw2 kw2 uw2 => ?_)
  have c3 := sf_mf kw2 (p := 60) (j := 0) rfl
  clear kw2 uw2
  refine sf_aload rfl ?_
  refine sf_getr Iw2 rfl rfl ?_
  refine sf_iload rfl ?_
  refine sf_iload rfl ?_
  refine sf_iast Iw2 sw2 rfl (by omega) (sf_bd _) rfl rfl (fun w4 Iw4 sw4 kw4 uw4 => ?_)
  have c5 := sf_mf kw4 (p := 60) (j := 0) rfl
  clear kw4 uw4
  refine sf_aload rfl ?_
  refine sf_getr Iw4 rfl rfl ?_
  refine sf_iload rfl ?_
  refine sf_lload rfl ?_
  refine sf_last Iw4 sw4 rfl (by omega) rfl rfl (fun w6 Iw6 sw6 kw6 uw6 => ?_)
  have c7 := sf_mf kw6 (p := 60) (j := 0) rfl
  clear kw6 uw6
  refine sf_aload rfl ?_
  refine sf_getr Iw6 rfl rfl ?_
  refine sf_iload rfl ?_
  refine sf_iload rfl ?_
  refine sf_zast Iw6 sw6 rfl (by omega) (by omega) rfl rfl (fun w8 Iw8 sw8 kw8 uw8 => ?_)
  have c9 := sf_mf kw8 (p := 60) (j := 0) rfl
  clear kw8 uw8
  refine sf_aload rfl ?_
  refine sf_getr Iw8 rfl rfl ?_
  refine sf_iload rfl ?_
  refine sf_iload rfl ?_
  refine sf_zast Iw8 sw8 rfl (by omega) (by omega) rfl rfl (fun w10 Iw10 sw10 kw10 uw10 => ?_)
  have c11 := sf_mf kw10 (p := 60) (j := 0) rfl
  clear kw10 uw10
  refine sf_aload rfl ?_
  refine sf_dup rfl ?_
  refine sf_geti Iw10 rfl rfl (fun v12 lv12 uv12 ev12 => ?_)
  rw [c11, c9, c7, c5, c3] at ev12
  refine sf_iconst sf_c1 (fun z13 ez13 => ?_)
  refine sf_iadd (by omega) (fun v14 ev14 => ?_)
  refine sf_puti Iw10 sw10 rfl rfl (by omega) rfl rfl rfl (fun w15 Iw15 sw15 kw15 uw15 => ?_)
  clear kw15
  refine sf_iload rfl ?_
  refine sf_ireturn rfl rfl ?_
  exact hR _ _ Iw15 sw15 (by omega) (by omega) (by rw [uw15]; omega)
def sm_A_greatestRemainder : List Nat := []
set_option maxRecDepth 100000 in
set_option maxHeartbeats 4000000 in
theorem sc_A_greatestRemainder {w0 : wq_W} (hI0 : sf_I w0) {rt : Option wq_V → wq_W → Prop} {xt : Nat → wq_W → Prop} {a_lines : Int32} (p0 : 0 ≤ a_lines.toInt) (p1 : a_lines.toInt ≤ 4) (hR : ∀ (r : Int32), 0 ≤ r.toInt → r.toInt ≤ 3 → rt (some (.inl (.int r))) w0) : ks_A_greatestRemainder [.inl (.ref 51), .inl (.int a_lines)] w0 rt xt := by
  have hl : ∀ n : Nat, (∀ (x2 : Int32) (x3 : Int32), (0 ≤ x2.toInt) → (x2.toInt ≤ 3) → (1 ≤ x3.toInt) → (x3.toInt ≤ 4) → (4 - x3.toInt < (n : Int)) → ku_A_greatestRemainder rt xt n 4 [(0, .inl (.ref 51)), (1, .inl (.int a_lines)), (2, .inl (.int x2)), (3, .inl (.int x3))] [] w0 0 0) := by
    intro n
    induction n with
    | zero =>
      refine ?_
      · intros; omega
    | succ n ih =>
      have i_4 := ih
      intro x2 x3 l_x2 u_x2 l_x3 u_x3 hm
      show kh_A_greatestRemainder_4 rt xt (ku_A_greatestRemainder rt xt n) [(0, .inl (.ref 51)), (1, .inl (.int a_lines)), (2, .inl (.int x2)), (3, .inl (.int x3))] [] w0 0 0
      generalize ku_A_greatestRemainder rt xt n = K at i_4 ⊢
      refine sf_iload rfl ?_
      refine sf_iload rfl ?_
      refine sf_f2_ge (fun h1 => ?_) (fun h1 => ?_)
      · refine sf_iload rfl ?_
        refine sf_ireturn rfl rfl ?_
        exact hR _ (by omega) (by omega) 
      · refine sf_aload rfl ?_
        refine sf_getr hI0 rfl rfl ?_
        refine sf_iload rfl ?_
        refine sf_lald hI0 rfl (by omega) (fun v2 ev2 => ?_)
        clear ev2
        refine sf_aload rfl ?_
        refine sf_getr hI0 rfl rfl ?_
        refine sf_iload rfl ?_
        refine sf_lald hI0 rfl (by omega) (fun v3 ev3 => ?_)
        clear ev3
        refine sf_fl_le (fun h4 => ?_) (fun h4 => ?_)
        · refine sf_iinc (L' := [(0, .inl (.ref 51)), (1, .inl (.int a_lines)), (2, .inl (.int x2))]) sf_c1 rfl rfl (by omega) (fun v5 ev5 => ?_)
          refine sf_can (L' := [(0, .inl (.ref 51)), (1, .inl (.int a_lines)), (2, .inl (.int x2)), (3, .inl (.int v5))]) rfl ?_
          exact i_4 x2 v5 (by omega) (by omega) (by omega) (by omega) (by omega)
        · refine sf_iload rfl ?_
          refine sf_istore (L' := [(0, .inl (.ref 51)), (1, .inl (.int a_lines)), (3, .inl (.int x3))]) rfl ?_
          refine sf_iinc (L' := [(2, .inl (.int x3)), (0, .inl (.ref 51)), (1, .inl (.int a_lines))]) sf_c1 rfl rfl (by omega) (fun v6 ev6 => ?_)
          refine sf_can (L' := [(0, .inl (.ref 51)), (1, .inl (.int a_lines)), (2, .inl (.int x3)), (3, .inl (.int v6))]) rfl ?_
          exact i_4 x3 v6 (by omega) (by omega) (by omega) (by omega) (by omega)
  have hl1 := hl 1000000000000
  have i_4 := hl1
  clear hl hl1
  refine sf_sp (L := [(0, .inl (.ref 51)), (1, .inl (.int a_lines))]) rfl rfl ?_
  generalize ku_A_greatestRemainder rt xt 1000000000000 = K at i_4 ⊢
  refine sf_iconst sf_c0 (fun z7 ez7 => ?_)
  refine sf_istore (L' := [(0, .inl (.ref 51)), (1, .inl (.int a_lines))]) rfl ?_
  refine sf_iconst sf_c1 (fun z8 ez8 => ?_)
  refine sf_istore (L' := [(2, .inl (.int z7)), (0, .inl (.ref 51)), (1, .inl (.int a_lines))]) rfl ?_
  refine sf_can (L' := [(0, .inl (.ref 51)), (1, .inl (.int a_lines)), (2, .inl (.int z7)), (3, .inl (.int z8))]) rfl ?_
  exact i_4 z7 z8 (by omega) (by omega) (by omega) (by omega) (by omega)
def sm_A_findWeights_45 : List Nat := [58]
set_option maxRecDepth 100000 in
set_option maxHeartbeats 4000000 in
theorem sc_A_findWeights_45 {w0 : wq_W} (hI0 : sf_I w0) {rt : Option wq_V → wq_W → Prop} {xt : Nat → wq_W → Prop} {a_declaration : Int32} (p0 : 0 ≤ a_declaration.toInt) (p1 : a_declaration.toInt ≤ 11) (hR : ∀ (r : Int64) (w : wq_W), sf_I w → sf_m sm_A_findWeights_45 w0 w → rt (some (.inl (.long r))) w) : ks_A_findWeights [.inl (.ref 51), .inl (.int a_declaration), .inl (.ref 45)] w0 rt xt := by
  have hs0 : sf_m sm_A_findWeights_45 w0 w0 := sf_m0
  have hl : ∀ n : Nat, (∀ (w : wq_W) (x3 : Int32) (x4 : Int64) (x6 : Int32), (sf_I w) → (sf_m sm_A_findWeights_45 w0 w) → (0 ≤ x3.toInt) → (x3.toInt ≤ 4) → (0 ≤ x6.toInt) → (x6.toInt ≤ 4) → (10 - x6.toInt < (n : Int)) → ku_A_findWeights rt xt n 16 [(0, .inl (.ref 51)), (1, .inl (.int a_declaration)), (2, .inl (.ref 45)), (3, .inl (.int x3)), (4, .inl (.long x4)), (6, .inl (.int x6))] [] w 0 0) ∧ (∀ (w : wq_W) (x3 : Int32) (x6 : Int32), (sf_I w) → (sf_m sm_A_findWeights_45 w0 w) → (0 ≤ x3.toInt) → (x3.toInt ≤ 4) → (0 ≤ x6.toInt) → (x6.toInt ≤ 4) → (4 - x6.toInt < (n : Int)) → ku_A_findWeights rt xt n 69 [(0, .inl (.ref 51)), (3, .inl (.int x3)), (6, .inl (.int x6))] [] w 0 0) := by
    intro n
    induction n with
    | zero =>
      refine ⟨?_, ?_⟩
      · intros; omega
      · intros; omega
    | succ n ih =>
      obtain ⟨i_16, i_69⟩ := ih
      refine ⟨?_, ?_⟩
      · intro w x3 x4 x6 I_w s_w l_x3 u_x3 l_x6 u_x6 hm
        show kh_A_findWeights_16 rt xt (ku_A_findWeights rt xt n) [(0, .inl (.ref 51)), (1, .inl (.int a_declaration)), (2, .inl (.ref 45)), (3, .inl (.int x3)), (4, .inl (.long x4)), (6, .inl (.int x6))] [] w 0 0
        generalize ku_A_findWeights rt xt n = K at i_16 i_69 ⊢
        refine sf_iload rfl ?_
        refine sf_iload rfl ?_
        refine sf_f2_ge (fun h1 => ?_) (fun h1 => ?_)
        · refine sf_lload rfl ?_
          refine sf_lconst (by decide : (0 : Int64).toInt = 0) (fun z2 ez2 => ?_)
          refine sf_fl_le (fun h3 => ?_) (fun h3 => ?_)
          · refine sf_iconst sf_c0 (fun z4 ez4 => ?_)
            refine sf_istore (L' := [(0, .inl (.ref 51)), (1, .inl (.int a_declaration)), (2, .inl (.ref 45)), (3, .inl (.int x3)), (4, .inl (.long x4))]) rfl ?_
            refine sf_can (L' := [(0, .inl (.ref 51)), (3, .inl (.int x3)), (6, .inl (.int z4))]) rfl ?_
            exact i_69 w x3 z4 I_w s_w (by omega) (by omega) (by omega) (by omega) (by omega)
          · refine sf_lload rfl ?_
            refine sf_lreturn rfl rfl ?_
            exact hR _ _ I_w s_w 
        · refine sf_aload rfl ?_
          refine sf_getr I_w rfl rfl ?_
          refine sf_iload rfl ?_
          refine sf_aload rfl ?_
          refine sf_iload rfl ?_
          refine sf_iload rfl ?_
          refine sf_call2 rfl rfl rfl ?_
          refine sf_sp (L := [(0, .inl (.int a_declaration)), (1, .inl (.int x6))]) rfl rfl ?_
          refine sf_iload rfl ?_
          refine sf_iconst sf_c4 (fun z5 ez5 => ?_)
          refine sf_imulr (n := 4) (by omega) (by omega) (fun v6 ev6 => ?_)
          refine sf_iload rfl ?_
          refine sf_iadd (by omega) (fun v7 ev7 => ?_)
          refine sf_ireturn rfl rfl ?_
          refine sf_iald I_w rfl (by omega) (fun v8 lv8 uv8 ev8 => ?_)
          clear lv8 uv8
          clear ev8
          refine sf_i2lb (fun v9 ev9 lv9 uv9 => ?_)
          refine sf_last I_w s_w rfl (by omega) rfl rfl (fun w10 Iw10 sw10 kw10 uw10 => ?_)
          clear kw10 uw10
          refine sf_lload rfl ?_
          refine sf_aload rfl ?_
          refine sf_getr Iw10 rfl rfl ?_
          refine sf_iload rfl ?_
          refine sf_lald Iw10 rfl (by omega) (fun v11 ev11 => ?_)
          clear ev11
          refine sf_l2 (fun v12 => ?_)
          refine sf_lstore (L' := [(0, .inl (.ref 51)), (1, .inl (.int a_declaration)), (2, .inl (.ref 45)), (3, .inl (.int x3)), (6, .inl (.int x6))]) rfl ?_
          refine sf_iinc (L' := [(4, .inl (.long v12)), (0, .inl (.ref 51)), (1, .inl (.int a_declaration)), (2, .inl (.ref 45)), (3, .inl (.int x3))]) sf_c1 rfl rfl (by omega) (fun v13 ev13 => ?_)
          refine sf_can (L' := [(0, .inl (.ref 51)), (1, .inl (.int a_declaration)), (2, .inl (.ref 45)), (3, .inl (.int x3)), (4, .inl (.long v12)), (6, .inl (.int v13))]) rfl ?_
          exact i_16 w10 x3 v12 v13 Iw10 sw10 (by omega) (by omega) (by omega) (by omega) (by omega)
      · intro w x3 x6 I_w s_w l_x3 u_x3 l_x6 u_x6 hm
        show kh_A_findWeights_69 rt xt (ku_A_findWeights rt xt n) [(0, .inl (.ref 51)), (3, .inl (.int x3)), (6, .inl (.int x6))] [] w 0 0
        generalize ku_A_findWeights rt xt n = K at i_16 i_69 ⊢
        refine sf_iload rfl ?_
        refine sf_iload rfl ?_
        refine sf_f2_ge (fun h14 => ?_) (fun h14 => ?_)
        · refine sf_iload rfl ?_
          refine sf_i2l (fun v15 ev15 => ?_)
          refine sf_lreturn rfl rfl ?_
          exact hR _ _ I_w s_w 
        · refine sf_aload rfl ?_
          refine sf_getr I_w rfl rfl ?_
          refine sf_iload rfl ?_
          refine sf_lconst (by decide : (1 : Int64).toInt = 1) (fun z16 ez16 => ?_)
          refine sf_last I_w s_w rfl (by omega) rfl rfl (fun w17 Iw17 sw17 kw17 uw17 => ?_)
          clear kw17 uw17
          refine sf_iinc (L' := [(0, .inl (.ref 51)), (3, .inl (.int x3))]) sf_c1 rfl rfl (by omega) (fun v18 ev18 => ?_)
          refine sf_can (L' := [(0, .inl (.ref 51)), (3, .inl (.int x3)), (6, .inl (.int v18))]) rfl ?_
          exact i_69 w17 x3 v18 Iw17 sw17 (by omega) (by omega) (by omega) (by omega) (by omega)
  have hl1 := hl 1000000000000
  obtain ⟨i_16, i_69⟩ := hl1
  clear hl
  refine sf_sp (L := [(0, .inl (.ref 51)), (1, .inl (.int a_declaration)), (2, .inl (.ref 45))]) rfl rfl ?_
  generalize ku_A_findWeights rt xt 1000000000000 = K at i_16 i_69 ⊢
  refine sf_aload rfl ?_
  refine sf_getr hI0 rfl rfl ?_
  refine sf_getr hI0 rfl rfl ?_
  refine sf_iload rfl ?_
  refine sf_iald hI0 rfl (by omega) (fun v19 lv19 uv19 ev19 => ?_)
  refine sf_istore (L' := [(0, .inl (.ref 51)), (1, .inl (.int a_declaration)), (2, .inl (.ref 45))]) rfl ?_
  refine sf_lconst (by decide : (0 : Int64).toInt = 0) (fun z20 ez20 => ?_)
  refine sf_lstore (L' := [(3, .inl (.int v19)), (0, .inl (.ref 51)), (1, .inl (.int a_declaration)), (2, .inl (.ref 45))]) rfl ?_
  refine sf_iconst sf_c0 (fun z21 ez21 => ?_)
  refine sf_istore (L' := [(4, .inl (.long z20)), (3, .inl (.int v19)), (0, .inl (.ref 51)), (1, .inl (.int a_declaration)), (2, .inl (.ref 45))]) rfl ?_
  refine sf_can (L' := [(0, .inl (.ref 51)), (1, .inl (.int a_declaration)), (2, .inl (.ref 45)), (3, .inl (.int v19)), (4, .inl (.long z20)), (6, .inl (.int z21))]) rfl ?_
  exact i_16 w0 v19 z20 z21 hI0 hs0 (by omega) (by omega) (by omega) (by omega) (by omega)
def sm_A_findWeights_46 : List Nat := [58]
set_option maxRecDepth 100000 in
set_option maxHeartbeats 4000000 in
theorem sc_A_findWeights_46 {w0 : wq_W} (hI0 : sf_I w0) {rt : Option wq_V → wq_W → Prop} {xt : Nat → wq_W → Prop} {a_declaration : Int32} (p0 : 0 ≤ a_declaration.toInt) (p1 : a_declaration.toInt ≤ 11) (hR : ∀ (r : Int64) (w : wq_W), sf_I w → sf_m sm_A_findWeights_46 w0 w → rt (some (.inl (.long r))) w) : ks_A_findWeights [.inl (.ref 51), .inl (.int a_declaration), .inl (.ref 46)] w0 rt xt := by
  have hs0 : sf_m sm_A_findWeights_46 w0 w0 := sf_m0
  have hl : ∀ n : Nat, (∀ (w : wq_W) (x3 : Int32) (x4 : Int64) (x6 : Int32), (sf_I w) → (sf_m sm_A_findWeights_46 w0 w) → (0 ≤ x3.toInt) → (x3.toInt ≤ 4) → (0 ≤ x6.toInt) → (x6.toInt ≤ 4) → (10 - x6.toInt < (n : Int)) → ku_A_findWeights rt xt n 16 [(0, .inl (.ref 51)), (1, .inl (.int a_declaration)), (2, .inl (.ref 46)), (3, .inl (.int x3)), (4, .inl (.long x4)), (6, .inl (.int x6))] [] w 0 0) ∧ (∀ (w : wq_W) (x3 : Int32) (x6 : Int32), (sf_I w) → (sf_m sm_A_findWeights_46 w0 w) → (0 ≤ x3.toInt) → (x3.toInt ≤ 4) → (0 ≤ x6.toInt) → (x6.toInt ≤ 4) → (4 - x6.toInt < (n : Int)) → ku_A_findWeights rt xt n 69 [(0, .inl (.ref 51)), (3, .inl (.int x3)), (6, .inl (.int x6))] [] w 0 0) := by
    intro n
    induction n with
    | zero =>
      refine ⟨?_, ?_⟩
      · intros; omega
      · intros; omega
    | succ n ih =>
      obtain ⟨i_16, i_69⟩ := ih
      refine ⟨?_, ?_⟩
      · intro w x3 x4 x6 I_w s_w l_x3 u_x3 l_x6 u_x6 hm
        show kh_A_findWeights_16 rt xt (ku_A_findWeights rt xt n) [(0, .inl (.ref 51)), (1, .inl (.int a_declaration)), (2, .inl (.ref 46)), (3, .inl (.int x3)), (4, .inl (.long x4)), (6, .inl (.int x6))] [] w 0 0
        generalize ku_A_findWeights rt xt n = K at i_16 i_69 ⊢
        refine sf_iload rfl ?_
        refine sf_iload rfl ?_
        refine sf_f2_ge (fun h1 => ?_) (fun h1 => ?_)
        · refine sf_lload rfl ?_
          refine sf_lconst (by decide : (0 : Int64).toInt = 0) (fun z2 ez2 => ?_)
          refine sf_fl_le (fun h3 => ?_) (fun h3 => ?_)
          · refine sf_iconst sf_c0 (fun z4 ez4 => ?_)
            refine sf_istore (L' := [(0, .inl (.ref 51)), (1, .inl (.int a_declaration)), (2, .inl (.ref 46)), (3, .inl (.int x3)), (4, .inl (.long x4))]) rfl ?_
            refine sf_can (L' := [(0, .inl (.ref 51)), (3, .inl (.int x3)), (6, .inl (.int z4))]) rfl ?_
            exact i_69 w x3 z4 I_w s_w (by omega) (by omega) (by omega) (by omega) (by omega)
          · refine sf_lload rfl ?_
            refine sf_lreturn rfl rfl ?_
            exact hR _ _ I_w s_w 
        · refine sf_aload rfl ?_
          refine sf_getr I_w rfl rfl ?_
          refine sf_iload rfl ?_
          refine sf_aload rfl ?_
          refine sf_iload rfl ?_
          refine sf_iload rfl ?_
          refine sf_call2 rfl rfl rfl ?_
          refine sf_sp (L := [(0, .inl (.int a_declaration)), (1, .inl (.int x6))]) rfl rfl ?_
          refine sf_iload rfl ?_
          refine sf_iconst sf_c4 (fun z5 ez5 => ?_)
          refine sf_imulr (n := 4) (by omega) (by omega) (fun v6 ev6 => ?_)
          refine sf_iload rfl ?_
          refine sf_iadd (by omega) (fun v7 ev7 => ?_)
          refine sf_ireturn rfl rfl ?_
          refine sf_iald I_w rfl (by omega) (fun v8 lv8 uv8 ev8 => ?_)
          clear lv8 uv8
          clear ev8
          refine sf_i2lb (fun v9 ev9 lv9 uv9 => ?_)
          refine sf_last I_w s_w rfl (by omega) rfl rfl (fun w10 Iw10 sw10 kw10 uw10 => ?_)
          clear kw10 uw10
          refine sf_lload rfl ?_
          refine sf_aload rfl ?_
          refine sf_getr Iw10 rfl rfl ?_
          refine sf_iload rfl ?_
          refine sf_lald Iw10 rfl (by omega) (fun v11 ev11 => ?_)
          clear ev11
          refine sf_l2 (fun v12 => ?_)
          refine sf_lstore (L' := [(0, .inl (.ref 51)), (1, .inl (.int a_declaration)), (2, .inl (.ref 46)), (3, .inl (.int x3)), (6, .inl (.int x6))]) rfl ?_
          refine sf_iinc (L' := [(4, .inl (.long v12)), (0, .inl (.ref 51)), (1, .inl (.int a_declaration)), (2, .inl (.ref 46)), (3, .inl (.int x3))]) sf_c1 rfl rfl (by omega) (fun v13 ev13 => ?_)
          refine sf_can (L' := [(0, .inl (.ref 51)), (1, .inl (.int a_declaration)), (2, .inl (.ref 46)), (3, .inl (.int x3)), (4, .inl (.long v12)), (6, .inl (.int v13))]) rfl ?_
          exact i_16 w10 x3 v12 v13 Iw10 sw10 (by omega) (by omega) (by omega) (by omega) (by omega)
      · intro w x3 x6 I_w s_w l_x3 u_x3 l_x6 u_x6 hm
        show kh_A_findWeights_69 rt xt (ku_A_findWeights rt xt n) [(0, .inl (.ref 51)), (3, .inl (.int x3)), (6, .inl (.int x6))] [] w 0 0
        generalize ku_A_findWeights rt xt n = K at i_16 i_69 ⊢
        refine sf_iload rfl ?_
        refine sf_iload rfl ?_
        refine sf_f2_ge (fun h14 => ?_) (fun h14 => ?_)
        · refine sf_iload rfl ?_
          refine sf_i2l (fun v15 ev15 => ?_)
          refine sf_lreturn rfl rfl ?_
          exact hR _ _ I_w s_w 
        · refine sf_aload rfl ?_
          refine sf_getr I_w rfl rfl ?_
          refine sf_iload rfl ?_
          refine sf_lconst (by decide : (1 : Int64).toInt = 1) (fun z16 ez16 => ?_)
          refine sf_last I_w s_w rfl (by omega) rfl rfl (fun w17 Iw17 sw17 kw17 uw17 => ?_)
          clear kw17 uw17
          refine sf_iinc (L' := [(0, .inl (.ref 51)), (3, .inl (.int x3))]) sf_c1 rfl rfl (by omega) (fun v18 ev18 => ?_)
          refine sf_can (L' := [(0, .inl (.ref 51)), (3, .inl (.int x3)), (6, .inl (.int v18))]) rfl ?_
          exact i_69 w17 x3 v18 Iw17 sw17 (by omega) (by omega) (by omega) (by omega) (by omega)
  have hl1 := hl 1000000000000
  obtain ⟨i_16, i_69⟩ := hl1
  clear hl
  refine sf_sp (L := [(0, .inl (.ref 51)), (1, .inl (.int a_declaration)), (2, .inl (.ref 46))]) rfl rfl ?_
  generalize ku_A_findWeights rt xt 1000000000000 = K at i_16 i_69 ⊢
  refine sf_aload rfl ?_
  refine sf_getr hI0 rfl rfl ?_
  refine sf_getr hI0 rfl rfl ?_
  refine sf_iload rfl ?_
  refine sf_iald hI0 rfl (by omega) (fun v19 lv19 uv19 ev19 => ?_)
  refine sf_istore (L' := [(0, .inl (.ref 51)), (1, .inl (.int a_declaration)), (2, .inl (.ref 46))]) rfl ?_
  refine sf_lconst (by decide : (0 : Int64).toInt = 0) (fun z20 ez20 => ?_)
  refine sf_lstore (L' := [(3, .inl (.int v19)), (0, .inl (.ref 51)), (1, .inl (.int a_declaration)), (2, .inl (.ref 46))]) rfl ?_
  refine sf_iconst sf_c0 (fun z21 ez21 => ?_)
  refine sf_istore (L' := [(4, .inl (.long z20)), (3, .inl (.int v19)), (0, .inl (.ref 51)), (1, .inl (.int a_declaration)), (2, .inl (.ref 46))]) rfl ?_
  refine sf_can (L' := [(0, .inl (.ref 51)), (1, .inl (.int a_declaration)), (2, .inl (.ref 46)), (3, .inl (.int v19)), (4, .inl (.long z20)), (6, .inl (.int z21))]) rfl ?_
  exact i_16 w0 v19 z20 z21 hI0 hs0 (by omega) (by omega) (by omega) (by omega) (by omega)
def sm_A_spread_45 : List Nat := [54, 58, 59]
set_option maxRecDepth 100000 in
set_option maxHeartbeats 4000000 in
theorem sc_A_spread_45 {w0 : wq_W} (hI0 : sf_I w0) {rt : Option wq_V → wq_W → Prop} {xt : Nat → wq_W → Prop} {a_declaration : Int32} {a_by : Int32} (p0 : 0 ≤ a_declaration.toInt) (p1 : a_declaration.toInt ≤ 11) (p2 : 0 ≤ a_by.toInt) (p3 : a_by.toInt ≤ 1) (hR : ∀ (w : wq_W), sf_I w → sf_m sm_A_spread_45 w0 w → rt none w) : ks_A_spread [.inl (.ref 51), .inl (.int a_declaration), .inl (.int a_by), .inl (.ref 45)] w0 rt xt := by
  have hs0 : sf_m sm_A_spread_45 w0 w0 := sf_m0
  have hl : ∀ n : Nat, (∀ (w : wq_W) (x4 : Int32) (x5 : Int64) (x7 : Int64) (x9 : Int64) (x11 : Int32), (sf_I w) → (sf_m sm_A_spread_45 w0 w) → (0 ≤ x4.toInt) → (x4.toInt ≤ 4) → (0 ≤ x11.toInt) → (x11.toInt ≤ 4) → (20 - x11.toInt < (n : Int)) → ku_A_spread rt xt n 40 [(0, .inl (.ref 51)), (4, .inl (.int x4)), (5, .inl (.long x5)), (7, .inl (.long x7)), (9, .inl (.long x9)), (11, .inl (.int x11))] [] w 0 0) ∧ (∀ (w : wq_W) (x4 : Int32) (x9 : Int64) (x11 : Int32), (sf_I w) → (sf_m sm_A_spread_45 w0 w) → (0 ≤ x4.toInt) → (x4.toInt ≤ 4) → (0 ≤ x11.toInt) → (x11.toInt ≤ 4) → (4 - x11.toInt < (n : Int)) → ku_A_spread rt xt n 112 [(0, .inl (.ref 51)), (4, .inl (.int x4)), (9, .inl (.long x9)), (11, .inl (.int x11))] [] w 0 0) := by
    intro n
    induction n with
    | zero =>
      refine ⟨?_, ?_⟩
      · intros; omega
      · intros; omega
    | succ n ih =>
      obtain ⟨i_40, i_112⟩ := ih
      refine ⟨?_, ?_⟩
      · intro w x4 x5 x7 x9 x11 I_w s_w l_x4 u_x4 l_x11 u_x11 hm
        show kh_A_spread_40 rt xt (ku_A_spread rt xt n) [(0, .inl (.ref 51)), (4, .inl (.int x4)), (5, .inl (.long x5)), (7, .inl (.long x7)), (9, .inl (.long x9)), (11, .inl (.int x11))] [] w 0 0
        generalize ku_A_spread rt xt n = K at i_40 i_112 ⊢
        refine sf_iload rfl ?_
        refine sf_iload rfl ?_
        refine sf_f2_ge (fun h1 => ?_) (fun h1 => ?_)
        · refine sf_iconst sf_c0 (fun z2 ez2 => ?_)
          refine sf_istore (L' := [(0, .inl (.ref 51)), (4, .inl (.int x4)), (5, .inl (.long x5)), (7, .inl (.long x7)), (9, .inl (.long x9))]) rfl ?_
          refine sf_can (L' := [(0, .inl (.ref 51)), (4, .inl (.int x4)), (9, .inl (.long x9)), (11, .inl (.int z2))]) rfl ?_
          exact i_112 w x4 x9 z2 I_w s_w (by omega) (by omega) (by omega) (by omega) (by omega)
        · refine sf_lload rfl ?_
          refine sf_lconst (by decide : (0 : Int64).toInt = 0) (fun z3 ez3 => ?_)
          refine sf_fl_le (fun h4 => ?_) (fun h4 => ?_)
          · refine sf_iconst sf_c0 (fun z5 ez5 => ?_)
            refine sf_istore (L' := [(0, .inl (.ref 51)), (4, .inl (.int x4)), (5, .inl (.long x5)), (7, .inl (.long x7)), (9, .inl (.long x9))]) rfl ?_
            refine sf_can (L' := [(0, .inl (.ref 51)), (4, .inl (.int x4)), (9, .inl (.long x9)), (11, .inl (.int z5))]) rfl ?_
            exact i_112 w x4 x9 z5 I_w s_w (by omega) (by omega) (by omega) (by omega) (by omega)
          · refine sf_lload rfl ?_
            refine sf_aload rfl ?_
            refine sf_getr I_w rfl rfl ?_
            refine sf_iload rfl ?_
            refine sf_lald I_w rfl (by omega) (fun v6 ev6 => ?_)
            clear ev6
            refine sf_l2 (fun v7 => ?_)
            refine sf_lstore (L' := [(0, .inl (.ref 51)), (4, .inl (.int x4)), (5, .inl (.long x5)), (7, .inl (.long x7)), (9, .inl (.long x9)), (11, .inl (.int x11))]) rfl ?_
            refine sf_aload rfl ?_
            refine sf_getr I_w rfl rfl ?_
            refine sf_iload rfl ?_
            refine sf_dup2 rfl rfl ?_
            refine sf_lald I_w rfl (by omega) (fun v8 ev8 => ?_)
            clear ev8
            refine sf_lload rfl ?_
            refine sf_lload rfl ?_
            refine sf_l2d (by omega) (fun v9 => ?_)
            refine sf_l2 (fun v10 => ?_)
            refine sf_last I_w s_w rfl (by omega) rfl rfl (fun w11 Iw11 sw11 kw11 uw11 => ?_)
            clear kw11 uw11
            refine sf_lload rfl ?_
            refine sf_lload rfl ?_
            refine sf_lload rfl ?_
            refine sf_l2d (by omega) (fun v12 => ?_)
            refine sf_l2 (fun v13 => ?_)
            refine sf_lstore (L' := [(12, .inl (.long v7)), (0, .inl (.ref 51)), (4, .inl (.int x4)), (5, .inl (.long x5)), (7, .inl (.long x7)), (11, .inl (.int x11))]) rfl ?_
            refine sf_aload rfl ?_
            refine sf_getr Iw11 rfl rfl ?_
            refine sf_iload rfl ?_
            refine sf_lload rfl ?_
            refine sf_lload rfl ?_
            refine sf_l2d (by omega) (fun v14 => ?_)
            refine sf_last Iw11 sw11 rfl (by omega) rfl rfl (fun w15 Iw15 sw15 kw15 uw15 => ?_)
            clear kw15 uw15
            refine sf_iinc (L' := [(9, .inl (.long v13)), (12, .inl (.long v7)), (0, .inl (.ref 51)), (4, .inl (.int x4)), (5, .inl (.long x5)), (7, .inl (.long x7))]) sf_c1 rfl rfl (by omega) (fun v16 ev16 => ?_)
            refine sf_can (L' := [(0, .inl (.ref 51)), (4, .inl (.int x4)), (5, .inl (.long x5)), (7, .inl (.long x7)), (9, .inl (.long v13)), (11, .inl (.int v16))]) rfl ?_
            exact i_40 w15 x4 x5 x7 v13 v16 Iw15 sw15 (by omega) (by omega) (by omega) (by omega) (by omega)
      · intro w x4 x9 x11 I_w s_w l_x4 u_x4 l_x11 u_x11 hm
        show kh_A_spread_112 rt xt (ku_A_spread rt xt n) [(0, .inl (.ref 51)), (4, .inl (.int x4)), (9, .inl (.long x9)), (11, .inl (.int x11))] [] w 0 0
        generalize ku_A_spread rt xt n = K at i_40 i_112 ⊢
        refine sf_iload rfl ?_
        refine sf_iload rfl ?_
        refine sf_f2_ge (fun h17 => ?_) (fun h17 => ?_)
        · refine sf_vreturn rfl rfl ?_
          exact hR _ I_w s_w 
        · refine sf_iload rfl ?_
          refine sf_i2l (fun v18 ev18 => ?_)
          refine sf_lload rfl ?_
          refine sf_fl_ge (fun h19 => ?_) (fun h19 => ?_)
          · refine sf_vreturn rfl rfl ?_
            exact hR _ I_w s_w 
          · refine sf_aload rfl ?_
            refine sf_iload rfl ?_
            refine sf_call2 rfl rfl rfl ?_
            refine sf_rv I_w rfl ?_
            refine sc_A_greatestRemainder I_w (by omega) (by omega) (fun v20 lv20 uv20 => ?_)
            refine sf_istore (L' := [(0, .inl (.ref 51)), (4, .inl (.int x4)), (9, .inl (.long x9)), (11, .inl (.int x11))]) rfl ?_
            refine sf_aload rfl ?_
            refine sf_getr I_w rfl rfl ?_
            refine sf_iload rfl ?_
            refine sf_dup2 rfl rfl ?_
            refine sf_lald I_w rfl (by omega) (fun v22 ev22 => ?_)
            clear ev22
            refine sf_lconst (by decide : (1 : Int64).toInt = 1) (fun z23 ez23 => ?_)
            refine sf_l2 (fun v24 => ?_)
            refine sf_last I_w s_w rfl (by omega) rfl rfl (fun w25 Iw25 sw25 kw25 uw25 => ?_)
            clear kw25 uw25
            refine sf_aload rfl ?_
            refine sf_getr Iw25 rfl rfl ?_
            refine sf_iload rfl ?_
            refine sf_lconst (by decide : (-1 : Int64).toInt = -1) (fun z26 ez26 => ?_)
            refine sf_last Iw25 sw25 rfl (by omega) rfl rfl (fun w27 Iw27 sw27 kw27 uw27 => ?_)
            clear kw27 uw27
            refine sf_iinc (L' := [(12, .inl (.int v20)), (0, .inl (.ref 51)), (4, .inl (.int x4)), (9, .inl (.long x9))]) sf_c1 rfl rfl (by omega) (fun v28 ev28 => ?_)
            refine sf_can (L' := [(0, .inl (.ref 51)), (4, .inl (.int x4)), (9, .inl (.long x9)), (11, .inl (.int v28))]) rfl ?_
            exact i_112 w27 x4 x9 v28 Iw27 sw27 (by omega) (by omega) (by omega) (by omega) (by omega)
  have hl1 := hl 1000000000000
  obtain ⟨i_40, i_112⟩ := hl1
  clear hl
  refine sf_sp (L := [(0, .inl (.ref 51)), (1, .inl (.int a_declaration)), (2, .inl (.int a_by)), (3, .inl (.ref 45))]) rfl rfl ?_
  generalize ku_A_spread rt xt 1000000000000 = K at i_40 i_112 ⊢
  refine sf_aload rfl ?_
  refine sf_getr hI0 rfl rfl ?_
  refine sf_getr hI0 rfl rfl ?_
  refine sf_iload rfl ?_
  refine sf_iald hI0 rfl (by omega) (fun v29 lv29 uv29 ev29 => ?_)
  refine sf_istore (L' := [(0, .inl (.ref 51)), (1, .inl (.int a_declaration)), (2, .inl (.int a_by)), (3, .inl (.ref 45))]) rfl ?_
  refine sf_aload rfl ?_
  refine sf_getr hI0 rfl rfl ?_
  refine sf_getr hI0 rfl rfl ?_
  refine sf_iload rfl ?_
  refine sf_aald hI0 rfl (by omega) ?_
  refine sf_iload rfl ?_
  refine sf_gald hI0 rfl (by omega) (by omega) (fun v30 lv30 uv30 ev30 => ?_)
  clear ev30
  refine sf_i2lb (fun v31 ev31 lv31 uv31 => ?_)
  refine sf_lstore (L' := [(4, .inl (.int v29)), (0, .inl (.ref 51)), (1, .inl (.int a_declaration)), (2, .inl (.int a_by)), (3, .inl (.ref 45))]) rfl ?_
  refine sf_aload rfl ?_
  refine sf_iload rfl ?_
  refine sf_aload rfl ?_
  refine sf_call3 rfl rfl rfl ?_
  refine sf_rv hI0 rfl ?_
  refine sc_A_findWeights_45 hI0 (by omega) (by omega) (fun v32 w33 Iw33 tw33 => ?_)
  have s35 := sf_mt hs0 tw33 rfl
  refine sf_lstore (L' := [(5, .inl (.long v31)), (4, .inl (.int v29)), (0, .inl (.ref 51)), (1, .inl (.int a_declaration)), (2, .inl (.int a_by)), (3, .inl (.ref 45))]) rfl ?_
  refine sf_lload rfl ?_
  refine sf_lstore (L' := [(7, .inl (.long v32)), (5, .inl (.long v31)), (4, .inl (.int v29)), (0, .inl (.ref 51)), (1, .inl (.int a_declaration)), (2, .inl (.int a_by)), (3, .inl (.ref 45))]) rfl ?_
  refine sf_iconst sf_c0 (fun z36 ez36 => ?_)
  refine sf_istore (L' := [(9, .inl (.long v31)), (7, .inl (.long v32)), (5, .inl (.long v31)), (4, .inl (.int v29)), (0, .inl (.ref 51)), (1, .inl (.int a_declaration)), (2, .inl (.int a_by)), (3, .inl (.ref 45))]) rfl ?_
  refine sf_can (L' := [(0, .inl (.ref 51)), (4, .inl (.int v29)), (5, .inl (.long v31)), (7, .inl (.long v32)), (9, .inl (.long v31)), (11, .inl (.int z36))]) rfl ?_
  exact i_40 w33 v29 v31 v32 v31 z36 Iw33 s35 (by omega) (by omega) (by omega) (by omega) (by omega)
def sm_A_spread_46 : List Nat := [54, 58, 59]
set_option maxRecDepth 100000 in
set_option maxHeartbeats 4000000 in
theorem sc_A_spread_46 {w0 : wq_W} (hI0 : sf_I w0) {rt : Option wq_V → wq_W → Prop} {xt : Nat → wq_W → Prop} {a_declaration : Int32} {a_by : Int32} (p0 : 0 ≤ a_declaration.toInt) (p1 : a_declaration.toInt ≤ 11) (p2 : 0 ≤ a_by.toInt) (p3 : a_by.toInt ≤ 1) (hR : ∀ (w : wq_W), sf_I w → sf_m sm_A_spread_46 w0 w → rt none w) : ks_A_spread [.inl (.ref 51), .inl (.int a_declaration), .inl (.int a_by), .inl (.ref 46)] w0 rt xt := by
  have hs0 : sf_m sm_A_spread_46 w0 w0 := sf_m0
  have hl : ∀ n : Nat, (∀ (w : wq_W) (x4 : Int32) (x5 : Int64) (x7 : Int64) (x9 : Int64) (x11 : Int32), (sf_I w) → (sf_m sm_A_spread_46 w0 w) → (0 ≤ x4.toInt) → (x4.toInt ≤ 4) → (0 ≤ x11.toInt) → (x11.toInt ≤ 4) → (20 - x11.toInt < (n : Int)) → ku_A_spread rt xt n 40 [(0, .inl (.ref 51)), (4, .inl (.int x4)), (5, .inl (.long x5)), (7, .inl (.long x7)), (9, .inl (.long x9)), (11, .inl (.int x11))] [] w 0 0) ∧ (∀ (w : wq_W) (x4 : Int32) (x9 : Int64) (x11 : Int32), (sf_I w) → (sf_m sm_A_spread_46 w0 w) → (0 ≤ x4.toInt) → (x4.toInt ≤ 4) → (0 ≤ x11.toInt) → (x11.toInt ≤ 4) → (4 - x11.toInt < (n : Int)) → ku_A_spread rt xt n 112 [(0, .inl (.ref 51)), (4, .inl (.int x4)), (9, .inl (.long x9)), (11, .inl (.int x11))] [] w 0 0) := by
    intro n
    induction n with
    | zero =>
      refine ⟨?_, ?_⟩
      · intros; omega
      · intros; omega
    | succ n ih =>
      obtain ⟨i_40, i_112⟩ := ih
      refine ⟨?_, ?_⟩
      · intro w x4 x5 x7 x9 x11 I_w s_w l_x4 u_x4 l_x11 u_x11 hm
        show kh_A_spread_40 rt xt (ku_A_spread rt xt n) [(0, .inl (.ref 51)), (4, .inl (.int x4)), (5, .inl (.long x5)), (7, .inl (.long x7)), (9, .inl (.long x9)), (11, .inl (.int x11))] [] w 0 0
        generalize ku_A_spread rt xt n = K at i_40 i_112 ⊢
        refine sf_iload rfl ?_
        refine sf_iload rfl ?_
        refine sf_f2_ge (fun h1 => ?_) (fun h1 => ?_)
        · refine sf_iconst sf_c0 (fun z2 ez2 => ?_)
          refine sf_istore (L' := [(0, .inl (.ref 51)), (4, .inl (.int x4)), (5, .inl (.long x5)), (7, .inl (.long x7)), (9, .inl (.long x9))]) rfl ?_
          refine sf_can (L' := [(0, .inl (.ref 51)), (4, .inl (.int x4)), (9, .inl (.long x9)), (11, .inl (.int z2))]) rfl ?_
          exact i_112 w x4 x9 z2 I_w s_w (by omega) (by omega) (by omega) (by omega) (by omega)
        · refine sf_lload rfl ?_
          refine sf_lconst (by decide : (0 : Int64).toInt = 0) (fun z3 ez3 => ?_)
          refine sf_fl_le (fun h4 => ?_) (fun h4 => ?_)
          · refine sf_iconst sf_c0 (fun z5 ez5 => ?_)
            refine sf_istore (L' := [(0, .inl (.ref 51)), (4, .inl (.int x4)), (5, .inl (.long x5)), (7, .inl (.long x7)), (9, .inl (.long x9))]) rfl ?_
            refine sf_can (L' := [(0, .inl (.ref 51)), (4, .inl (.int x4)), (9, .inl (.long x9)), (11, .inl (.int z5))]) rfl ?_
            exact i_112 w x4 x9 z5 I_w s_w (by omega) (by omega) (by omega) (by omega) (by omega)
          · refine sf_lload rfl ?_
            refine sf_aload rfl ?_
            refine sf_getr I_w rfl rfl ?_
            refine sf_iload rfl ?_
            refine sf_lald I_w rfl (by omega) (fun v6 ev6 => ?_)
            clear ev6
            refine sf_l2 (fun v7 => ?_)
            refine sf_lstore (L' := [(0, .inl (.ref 51)), (4, .inl (.int x4)), (5, .inl (.long x5)), (7, .inl (.long x7)), (9, .inl (.long x9)), (11, .inl (.int x11))]) rfl ?_
            refine sf_aload rfl ?_
            refine sf_getr I_w rfl rfl ?_
            refine sf_iload rfl ?_
            refine sf_dup2 rfl rfl ?_
            refine sf_lald I_w rfl (by omega) (fun v8 ev8 => ?_)
            clear ev8
            refine sf_lload rfl ?_
            refine sf_lload rfl ?_
            refine sf_l2d (by omega) (fun v9 => ?_)
            refine sf_l2 (fun v10 => ?_)
            refine sf_last I_w s_w rfl (by omega) rfl rfl (fun w11 Iw11 sw11 kw11 uw11 => ?_)
            clear kw11 uw11
            refine sf_lload rfl ?_
            refine sf_lload rfl ?_
            refine sf_lload rfl ?_
            refine sf_l2d (by omega) (fun v12 => ?_)
            refine sf_l2 (fun v13 => ?_)
            refine sf_lstore (L' := [(12, .inl (.long v7)), (0, .inl (.ref 51)), (4, .inl (.int x4)), (5, .inl (.long x5)), (7, .inl (.long x7)), (11, .inl (.int x11))]) rfl ?_
            refine sf_aload rfl ?_
            refine sf_getr Iw11 rfl rfl ?_
            refine sf_iload rfl ?_
            refine sf_lload rfl ?_
            refine sf_lload rfl ?_
            refine sf_l2d (by omega) (fun v14 => ?_)
            refine sf_last Iw11 sw11 rfl (by omega) rfl rfl (fun w15 Iw15 sw15 kw15 uw15 => ?_)
            clear kw15 uw15
            refine sf_iinc (L' := [(9, .inl (.long v13)), (12, .inl (.long v7)), (0, .inl (.ref 51)), (4, .inl (.int x4)), (5, .inl (.long x5)), (7, .inl (.long x7))]) sf_c1 rfl rfl (by omega) (fun v16 ev16 => ?_)
            refine sf_can (L' := [(0, .inl (.ref 51)), (4, .inl (.int x4)), (5, .inl (.long x5)), (7, .inl (.long x7)), (9, .inl (.long v13)), (11, .inl (.int v16))]) rfl ?_
            exact i_40 w15 x4 x5 x7 v13 v16 Iw15 sw15 (by omega) (by omega) (by omega) (by omega) (by omega)
      · intro w x4 x9 x11 I_w s_w l_x4 u_x4 l_x11 u_x11 hm
        show kh_A_spread_112 rt xt (ku_A_spread rt xt n) [(0, .inl (.ref 51)), (4, .inl (.int x4)), (9, .inl (.long x9)), (11, .inl (.int x11))] [] w 0 0
        generalize ku_A_spread rt xt n = K at i_40 i_112 ⊢
        refine sf_iload rfl ?_
        refine sf_iload rfl ?_
        refine sf_f2_ge (fun h17 => ?_) (fun h17 => ?_)
        · refine sf_vreturn rfl rfl ?_
          exact hR _ I_w s_w 
        · refine sf_iload rfl ?_
          refine sf_i2l (fun v18 ev18 => ?_)
          refine sf_lload rfl ?_
          refine sf_fl_ge (fun h19 => ?_) (fun h19 => ?_)
          · refine sf_vreturn rfl rfl ?_
            exact hR _ I_w s_w 
          · refine sf_aload rfl ?_
            refine sf_iload rfl ?_
            refine sf_call2 rfl rfl rfl ?_
            refine sf_rv I_w rfl ?_
            refine sc_A_greatestRemainder I_w (by omega) (by omega) (fun v20 lv20 uv20 => ?_)
            refine sf_istore (L' := [(0, .inl (.ref 51)), (4, .inl (.int x4)), (9, .inl (.long x9)), (11, .inl (.int x11))]) rfl ?_
            refine sf_aload rfl ?_
            refine sf_getr I_w rfl rfl ?_
            refine sf_iload rfl ?_
            refine sf_dup2 rfl rfl ?_
            refine sf_lald I_w rfl (by omega) (fun v22 ev22 => ?_)
            clear ev22
            refine sf_lconst (by decide : (1 : Int64).toInt = 1) (fun z23 ez23 => ?_)
            refine sf_l2 (fun v24 => ?_)
            refine sf_last I_w s_w rfl (by omega) rfl rfl (fun w25 Iw25 sw25 kw25 uw25 => ?_)
            clear kw25 uw25
            refine sf_aload rfl ?_
            refine sf_getr Iw25 rfl rfl ?_
            refine sf_iload rfl ?_
            refine sf_lconst (by decide : (-1 : Int64).toInt = -1) (fun z26 ez26 => ?_)
            refine sf_last Iw25 sw25 rfl (by omega) rfl rfl (fun w27 Iw27 sw27 kw27 uw27 => ?_)
            clear kw27 uw27
            refine sf_iinc (L' := [(12, .inl (.int v20)), (0, .inl (.ref 51)), (4, .inl (.int x4)), (9, .inl (.long x9))]) sf_c1 rfl rfl (by omega) (fun v28 ev28 => ?_)
            refine sf_can (L' := [(0, .inl (.ref 51)), (4, .inl (.int x4)), (9, .inl (.long x9)), (11, .inl (.int v28))]) rfl ?_
            exact i_112 w27 x4 x9 v28 Iw27 sw27 (by omega) (by omega) (by omega) (by omega) (by omega)
  have hl1 := hl 1000000000000
  obtain ⟨i_40, i_112⟩ := hl1
  clear hl
  refine sf_sp (L := [(0, .inl (.ref 51)), (1, .inl (.int a_declaration)), (2, .inl (.int a_by)), (3, .inl (.ref 46))]) rfl rfl ?_
  generalize ku_A_spread rt xt 1000000000000 = K at i_40 i_112 ⊢
  refine sf_aload rfl ?_
  refine sf_getr hI0 rfl rfl ?_
  refine sf_getr hI0 rfl rfl ?_
  refine sf_iload rfl ?_
  refine sf_iald hI0 rfl (by omega) (fun v29 lv29 uv29 ev29 => ?_)
  refine sf_istore (L' := [(0, .inl (.ref 51)), (1, .inl (.int a_declaration)), (2, .inl (.int a_by)), (3, .inl (.ref 46))]) rfl ?_
  refine sf_aload rfl ?_
  refine sf_getr hI0 rfl rfl ?_
  refine sf_getr hI0 rfl rfl ?_
  refine sf_iload rfl ?_
  refine sf_aald hI0 rfl (by omega) ?_
  refine sf_iload rfl ?_
  refine sf_gald hI0 rfl (by omega) (by omega) (fun v30 lv30 uv30 ev30 => ?_)
  clear ev30
  refine sf_i2lb (fun v31 ev31 lv31 uv31 => ?_)
  refine sf_lstore (L' := [(4, .inl (.int v29)), (0, .inl (.ref 51)), (1, .inl (.int a_declaration)), (2, .inl (.int a_by)), (3, .inl (.ref 46))]) rfl ?_
  refine sf_aload rfl ?_
  refine sf_iload rfl ?_
  refine sf_aload rfl ?_
  refine sf_call3 rfl rfl rfl ?_
  refine sf_rv hI0 rfl ?_
  refine sc_A_findWeights_46 hI0 (by omega) (by omega) (fun v32 w33 Iw33 tw33 => ?_)
  have s35 := sf_mt hs0 tw33 rfl
  refine sf_lstore (L' := [(5, .inl (.long v31)), (4, .inl (.int v29)), (0, .inl (.ref 51)), (1, .inl (.int a_declaration)), (2, .inl (.int a_by)), (3, .inl (.ref 46))]) rfl ?_
  refine sf_lload rfl ?_
  refine sf_lstore (L' := [(7, .inl (.long v32)), (5, .inl (.long v31)), (4, .inl (.int v29)), (0, .inl (.ref 51)), (1, .inl (.int a_declaration)), (2, .inl (.int a_by)), (3, .inl (.ref 46))]) rfl ?_
  refine sf_iconst sf_c0 (fun z36 ez36 => ?_)
  refine sf_istore (L' := [(9, .inl (.long v31)), (7, .inl (.long v32)), (5, .inl (.long v31)), (4, .inl (.int v29)), (0, .inl (.ref 51)), (1, .inl (.int a_declaration)), (2, .inl (.int a_by)), (3, .inl (.ref 46))]) rfl ?_
  refine sf_can (L' := [(0, .inl (.ref 51)), (4, .inl (.int v29)), (5, .inl (.long v31)), (7, .inl (.long v32)), (9, .inl (.long v31)), (11, .inl (.int z36))]) rfl ?_
  exact i_40 w33 v29 v31 v32 v31 z36 Iw33 s35 (by omega) (by omega) (by omega) (by omega) (by omega)
