def sm_I_bitCount : List Nat := []
set_option maxRecDepth 100000 in
set_option maxHeartbeats 4000000 in
theorem sc_I_bitCount {w0 : wq_W} (hI0 : sf_I w0) {rt : Option wq_V → wq_W → Prop} {xt : Nat → wq_W → Prop} {a_l0 : Int32}  (hR : ∀ (r : Int32), 0 ≤ r.toInt → r.toInt ≤ 63 → rt (some (.inl (.int r))) w0) : ks_I_bitCount [.inl (.int a_l0)] w0 rt xt := by
  refine sf_sp (L := [(0, .inl (.int a_l0))]) rfl rfl ?_
  refine sf_iload rfl ?_
  refine sf_iload rfl ?_
  refine sf_iconst sf_c1 (fun z1 ez1 => ?_)
  refine sf_i2 (fun v2 => ?_)
  refine sf_iconst sf_cl1431655765 (fun z3 ez3 => ?_)
  refine sf_iand (n := 1431655765) (by omega) (by decide) (fun v4 lv4 uv4 => ?_)
  refine sf_i2 (fun v5 => ?_)
  refine sf_istore (L' := []) rfl ?_
  refine sf_iload rfl ?_
  refine sf_iconst sf_cl858993459 (fun z6 ez6 => ?_)
  refine sf_iand (n := 858993459) (by omega) (by decide) (fun v7 lv7 uv7 => ?_)
  refine sf_iload rfl ?_
  refine sf_iconst sf_c2 (fun z8 ez8 => ?_)
  refine sf_i2 (fun v9 => ?_)
  refine sf_iconst sf_cl858993459 (fun z10 ez10 => ?_)
  refine sf_iand (n := 858993459) (by omega) (by decide) (fun v11 lv11 uv11 => ?_)
  refine sf_iadd (by omega) (fun v12 ev12 => ?_)
  refine sf_istore (L' := []) rfl ?_
  refine sf_iload rfl ?_
  refine sf_iload rfl ?_
  refine sf_iconst sf_c4 (fun z13 ez13 => ?_)
  refine sf_i2 (fun v14 => ?_)
  refine sf_i2 (fun v15 => ?_)
  refine sf_iconst sf_cl252645135 (fun z16 ez16 => ?_)
  refine sf_iand (n := 252645135) (by omega) (by decide) (fun v17 lv17 uv17 => ?_)
  refine sf_istore (L' := []) rfl ?_
  refine sf_iload rfl ?_
  refine sf_iload rfl ?_
  refine sf_iconst sf_c8 (fun z18 ez18 => ?_)
  refine sf_i2 (fun v19 => ?_)
  refine sf_i2 (fun v20 => ?_)
  refine sf_istore (L' := []) rfl ?_
  refine sf_iload rfl ?_
  refine sf_iload rfl ?_
  refine sf_iconst sf_c16 (fun z21 ez21 => ?_)
  refine sf_i2 (fun v22 => ?_)
  refine sf_i2 (fun v23 => ?_)
  refine sf_istore (L' := []) rfl ?_
  refine sf_iload rfl ?_
  refine sf_iconst sf_c63 (fun z24 ez24 => ?_)
  refine sf_iand (n := 63) (by omega) (by decide) (fun v25 lv25 uv25 => ?_)
  refine sf_ireturn rfl rfl ?_
  exact hR _ (by omega) (by omega) 
def sm_T_greatestMaterial : List Nat := []
set_option maxRecDepth 100000 in
set_option maxHeartbeats 4000000 in
theorem sc_T_greatestMaterial {w0 : wq_W} (hI0 : sf_I w0) {rt : Option wq_V → wq_W → Prop} {xt : Nat → wq_W → Prop} {a_good : Int32} (p0 : 0 ≤ a_good.toInt) (p1 : a_good.toInt ≤ 15) (hR : ∀ (r : Int32), rt (some (.inl (.int r))) w0) : ks_T_greatestMaterial [.inl (.ref 1), .inl (.int a_good)] w0 rt xt := by
  have hl : ∀ n : Nat, (∀ (x2 : Int32) (x3 : Int32), (0 ≤ x3.toInt) → (x3.toInt ≤ 4) → (4 - x3.toInt < (n : Int)) → ku_T_greatestMaterial rt xt n 4 [(0, .inl (.ref 1)), (1, .inl (.int a_good)), (2, .inl (.int x2)), (3, .inl (.int x3))] [] w0 0 0) := by
    intro n
    induction n with
    | zero =>
      refine ?_
      · intros; omega
    | succ n ih =>
      have i_4 := ih
      intro x2 x3 l_x3 u_x3 hm
      show kh_T_greatestMaterial_4 rt xt (ku_T_greatestMaterial rt xt n) [(0, .inl (.ref 1)), (1, .inl (.int a_good)), (2, .inl (.int x2)), (3, .inl (.int x3))] [] w0 0 0
      generalize ku_T_greatestMaterial rt xt n = K at i_4 ⊢
      refine sf_iload rfl ?_
      refine sf_iconst sf_c4 (fun z1 ez1 => ?_)
      refine sf_f2_ge (fun h2 => ?_) (fun h2 => ?_)
      · refine sf_iload rfl ?_
        refine sf_ireturn rfl rfl ?_
        exact hR _ 
      · refine sf_iload rfl ?_
        refine sf_aload rfl ?_
        refine sf_getr hI0 rfl rfl ?_
        refine sf_iload rfl ?_
        refine sf_aald hI0 rfl (by omega) ?_
        refine sf_iload rfl ?_
        refine sf_gald hI0 rfl (by omega) (by omega) (fun v3 lv3 uv3 ev3 => ?_)
        clear ev3
        refine sf_m2 rfl rfl rfl (fun v4 => ?_)
        refine sf_istore (L' := [(0, .inl (.ref 1)), (1, .inl (.int a_good)), (3, .inl (.int x3))]) rfl ?_
        refine sf_iinc (L' := [(2, .inl (.int v4)), (0, .inl (.ref 1)), (1, .inl (.int a_good))]) sf_c1 rfl rfl (by omega) (fun v5 ev5 => ?_)
        refine sf_can (L' := [(0, .inl (.ref 1)), (1, .inl (.int a_good)), (2, .inl (.int v4)), (3, .inl (.int v5))]) rfl ?_
        exact i_4 v4 v5 (by omega) (by omega) (by omega)
  have hl1 := hl 1000000000000
  have i_4 := hl1
  clear hl hl1
  refine sf_sp (L := [(0, .inl (.ref 1)), (1, .inl (.int a_good))]) rfl rfl ?_
  generalize ku_T_greatestMaterial rt xt 1000000000000 = K at i_4 ⊢
  refine sf_iconst sf_c0 (fun z6 ez6 => ?_)
  refine sf_istore (L' := [(0, .inl (.ref 1)), (1, .inl (.int a_good))]) rfl ?_
  refine sf_iconst sf_c0 (fun z7 ez7 => ?_)
  refine sf_istore (L' := [(2, .inl (.int z6)), (0, .inl (.ref 1)), (1, .inl (.int a_good))]) rfl ?_
  refine sf_can (L' := [(0, .inl (.ref 1)), (1, .inl (.int a_good)), (2, .inl (.int z6)), (3, .inl (.int z7))]) rfl ?_
  exact i_4 z6 z7 (by omega) (by omega) (by omega)
def sm_T_judgeByOwnNotes : List Nat := [11, 12]
set_option maxRecDepth 100000 in
set_option maxHeartbeats 4000000 in
theorem sc_T_judgeByOwnNotes {w0 : wq_W} (hI0 : sf_I w0) {rt : Option wq_V → wq_W → Prop} {xt : Nat → wq_W → Prop} {a_good : Int32} (p0 : 0 ≤ a_good.toInt) (p1 : a_good.toInt ≤ 15) (hR : ∀ (w : wq_W), sf_I w → sf_m sm_T_judgeByOwnNotes w0 w → rt none w) : ks_T_judgeByOwnNotes [.inl (.ref 1), .inl (.int a_good)] w0 rt xt := by
  have hs0 : sf_m sm_T_judgeByOwnNotes w0 w0 := sf_m0
  have hl : ∀ n : Nat, (∀ (w : wq_W) (x2 : Int32), (sf_I w) → (sf_m sm_T_judgeByOwnNotes w0 w) → (0 ≤ x2.toInt) → (x2.toInt ≤ 24) → (100 - x2.toInt < (n : Int)) → ku_T_judgeByOwnNotes rt xt n 2 [(0, .inl (.ref 1)), (1, .inl (.int a_good)), (2, .inl (.int x2))] [] w 0 0) ∧ (∀ (w : wq_W) (x2 : Int32) (x3 : Int32), (sf_I w) → (sf_m sm_T_judgeByOwnNotes w0 w) → (0 ≤ x3.toInt) → (x3.toInt ≤ 40) → (40 - x3.toInt < (n : Int)) → ku_T_judgeByOwnNotes rt xt n 38 [(0, .inl (.ref 1)), (1, .inl (.int a_good)), (2, .inl (.int x2)), (3, .inl (.int x3))] [] w 0 0) := by
    intro n
    induction n with
    | zero =>
      refine ⟨?_, ?_⟩
      · intros; omega
      · intros; omega
    | succ n ih =>
      obtain ⟨i_2, i_38⟩ := ih
      refine ⟨?_, ?_⟩
      · intro w x2 I_w s_w l_x2 u_x2 hm
        show kh_T_judgeByOwnNotes_2 rt xt (ku_T_judgeByOwnNotes rt xt n) [(0, .inl (.ref 1)), (1, .inl (.int a_good)), (2, .inl (.int x2))] [] w 0 0
        generalize ku_T_judgeByOwnNotes rt xt n = K at i_2 i_38 ⊢
        refine sf_iload rfl ?_
        refine sf_aload rfl ?_
        refine sf_geti I_w rfl rfl (fun v1 lv1 uv1 ev1 => ?_)
        rw [sf_mf s_w (p := 1) (j := 0) rfl] at ev1
        refine sf_f2_ge (fun h2 => ?_) (fun h2 => ?_)
        · refine sf_aload rfl ?_
          refine sf_iload rfl ?_
          refine sf_call2 rfl rfl rfl ?_
          refine sf_rv I_w rfl ?_
          refine sc_T_greatestMaterial I_w (by omega) (by omega) (fun v3 => ?_)
          refine sf_istore (L' := [(0, .inl (.ref 1)), (1, .inl (.int a_good))]) rfl ?_
          refine sf_iconst sf_c0 (fun z5 ez5 => ?_)
          refine sf_istore (L' := [(2, .inl (.int v3)), (0, .inl (.ref 1)), (1, .inl (.int a_good))]) rfl ?_
          refine sf_can (L' := [(0, .inl (.ref 1)), (1, .inl (.int a_good)), (2, .inl (.int v3)), (3, .inl (.int z5))]) rfl ?_
          exact i_38 w v3 z5 I_w s_w (by omega) (by omega) (by omega)
        · refine sf_aload rfl ?_
          refine sf_getr I_w rfl rfl ?_
          refine sf_iload rfl ?_
          refine sf_iconst sf_c1 (fun z6 ez6 => ?_)
          refine sf_zast I_w s_w rfl (by omega) (by omega) rfl rfl (fun w7 Iw7 sw7 kw7 uw7 => ?_)
          clear kw7 uw7
          refine sf_aload rfl ?_
          refine sf_getr Iw7 rfl rfl ?_
          refine sf_iload rfl ?_
          refine sf_iconst sf_c0 (fun z8 ez8 => ?_)
          refine sf_iast Iw7 sw7 rfl (by omega) (sf_bd _) rfl rfl (fun w9 Iw9 sw9 kw9 uw9 => ?_)
          clear kw9 uw9
          refine sf_iinc (L' := [(0, .inl (.ref 1)), (1, .inl (.int a_good))]) sf_c1 rfl rfl (by omega) (fun v10 ev10 => ?_)
          refine sf_can (L' := [(0, .inl (.ref 1)), (1, .inl (.int a_good)), (2, .inl (.int v10))]) rfl ?_
          exact i_2 w9 v10 Iw9 sw9 (by omega) (by omega) (by omega)
      · intro w x2 x3 I_w s_w l_x3 u_x3 hm
        show kh_T_judgeByOwnNotes_38 rt xt (ku_T_judgeByOwnNotes rt xt n) [(0, .inl (.ref 1)), (1, .inl (.int a_good)), (2, .inl (.int x2)), (3, .inl (.int x3))] [] w 0 0
        generalize ku_T_judgeByOwnNotes rt xt n = K at i_2 i_38 ⊢
        refine sf_iload rfl ?_
        refine sf_aload rfl ?_
        refine sf_geti I_w rfl rfl (fun v11 lv11 uv11 ev11 => ?_)
        rw [sf_mf s_w (p := 1) (j := 5) rfl] at ev11
        refine sf_f2_ge (fun h12 => ?_) (fun h12 => ?_)
        · refine sf_vreturn rfl rfl ?_
          exact hR _ I_w s_w 
        · refine sf_aload rfl ?_
          refine sf_getr I_w rfl rfl ?_
          refine sf_iload rfl ?_
          refine sf_iald I_w rfl (by omega) (fun v13 lv13 uv13 ev13 => ?_)
          clear ev13
          refine sf_istore (L' := [(0, .inl (.ref 1)), (1, .inl (.int a_good)), (2, .inl (.int x2)), (3, .inl (.int x3))]) rfl ?_
          refine sf_aload rfl ?_
          refine sf_getr I_w rfl rfl ?_
          refine sf_iload rfl ?_
          refine sf_aald I_w rfl (by omega) ?_
          refine sf_aload rfl ?_
          refine sf_getr I_w rfl rfl ?_
          refine sf_iload rfl ?_
          refine sf_iald I_w rfl (by omega) (fun v14 lv14 uv14 ev14 => ?_)
          clear ev14
          refine sf_gald I_w rfl (by omega) (by omega) (fun v15 lv15 uv15 ev15 => ?_)
          clear ev15
          refine sf_istore (L' := [(4, .inl (.int v13)), (0, .inl (.ref 1)), (1, .inl (.int a_good)), (2, .inl (.int x2)), (3, .inl (.int x3))]) rfl ?_
          refine sf_aload rfl ?_
          refine sf_iload rfl ?_
          refine sf_iload rfl ?_
          refine sf_iload rfl ?_
          refine sf_call4 rfl rfl rfl ?_
          refine sf_rv I_w rfl ?_
          refine sf_sp (L := [(0, .inl (.ref 1)), (1, .inl (.int x3)), (2, .inl (.int v15)), (3, .inl (.int x2))]) rfl rfl ?_
          refine sf_aload rfl ?_
          refine sf_getr I_w rfl rfl ?_
          refine sf_iload rfl ?_
          refine sf_iald I_w rfl (by omega) (fun v16 lv16 uv16 ev16 => ?_)
          clear lv16 uv16
          clear ev16
          refine sf_sw1 sf_c0 (fun h17 => ?_) (fun h17 => ?_)
          · refine sf_iload rfl ?_
            refine sf_aload rfl ?_
            refine sf_getr I_w rfl rfl ?_
            refine sf_iload rfl ?_
            refine sf_iald I_w rfl (by omega) (fun v18 lv18 uv18 ev18 => ?_)
            clear lv18 uv18
            clear ev18
            refine sf_f2_lt (fun h19 => ?_) (fun h19 => ?_)
            · refine sf_iconst sf_c0 (fun z20 ez20 => ?_)
              refine sf_zreturn (by omega) rfl rfl ?_
              refine sf_f1_eq (fun h21 => ?_) (fun h21 => absurd h21 (by omega))
              refine sf_aload rfl ?_
              refine sf_getr I_w rfl rfl ?_
              refine sf_iload rfl ?_
              refine sf_iconst sf_c0 (fun z22 ez22 => ?_)
              refine sf_zast I_w s_w rfl (by omega) (by omega) rfl rfl (fun w23 Iw23 sw23 kw23 uw23 => ?_)
              clear kw23 uw23
              refine sf_aload rfl ?_
              refine sf_getr Iw23 rfl rfl ?_
              refine sf_iload rfl ?_
              refine sf_iald Iw23 rfl (by omega) (fun v24 lv24 uv24 ev24 => ?_)
              clear lv24 uv24
              clear ev24
              refine sf_iconst sf_c2 (fun z25 ez25 => ?_)
              refine sf_f2_eq (fun h26 => ?_) (fun h26 => ?_)
              · refine sf_aload rfl ?_
                refine sf_getr Iw23 rfl rfl ?_
                refine sf_iload rfl ?_
                refine sf_aload rfl ?_
                refine sf_getr Iw23 rfl rfl ?_
                refine sf_iload rfl ?_
                refine sf_iald Iw23 rfl (by omega) (fun v27 lv27 uv27 ev27 => ?_)
                clear lv27 uv27
                clear ev27
                refine sf_iload rfl ?_
                refine sf_m2 rfl rfl rfl (fun v28 => ?_)
                refine sf_iast Iw23 sw23 rfl (by omega) (sf_bd _) rfl rfl (fun w29 Iw29 sw29 kw29 uw29 => ?_)
                clear kw29 uw29
                refine sf_iinc (L' := [(5, .inl (.int v15)), (4, .inl (.int v13)), (0, .inl (.ref 1)), (1, .inl (.int a_good)), (2, .inl (.int x2))]) sf_c1 rfl rfl (by omega) (fun v30 ev30 => ?_)
                refine sf_can (L' := [(0, .inl (.ref 1)), (1, .inl (.int a_good)), (2, .inl (.int x2)), (3, .inl (.int v30))]) rfl ?_
                exact i_38 w29 x2 v30 Iw29 sw29 (by omega) (by omega) (by omega)
              · refine sf_iinc (L' := [(5, .inl (.int v15)), (4, .inl (.int v13)), (0, .inl (.ref 1)), (1, .inl (.int a_good)), (2, .inl (.int x2))]) sf_c1 rfl rfl (by omega) (fun v31 ev31 => ?_)
                refine sf_can (L' := [(0, .inl (.ref 1)), (1, .inl (.int a_good)), (2, .inl (.int x2)), (3, .inl (.int v31))]) rfl ?_
                exact i_38 w23 x2 v31 Iw23 sw23 (by omega) (by omega) (by omega)
            · refine sf_iconst sf_c1 (fun z32 ez32 => ?_)
              refine sf_zreturn (by omega) rfl rfl ?_
              refine sf_f1_eq (fun h33 => absurd h33 (by omega)) (fun h33 => ?_)
              refine sf_aload rfl ?_
              refine sf_getr I_w rfl rfl ?_
              refine sf_iload rfl ?_
              refine sf_iald I_w rfl (by omega) (fun v34 lv34 uv34 ev34 => ?_)
              clear lv34 uv34
              clear ev34
              refine sf_iconst sf_c2 (fun z35 ez35 => ?_)
              refine sf_f2_eq (fun h36 => ?_) (fun h36 => ?_)
              · refine sf_aload rfl ?_
                refine sf_getr I_w rfl rfl ?_
                refine sf_iload rfl ?_
                refine sf_aload rfl ?_
                refine sf_getr I_w rfl rfl ?_
                refine sf_iload rfl ?_
                refine sf_iald I_w rfl (by omega) (fun v37 lv37 uv37 ev37 => ?_)
                clear lv37 uv37
                clear ev37
                refine sf_iload rfl ?_
                refine sf_m2 rfl rfl rfl (fun v38 => ?_)
                refine sf_iast I_w s_w rfl (by omega) (sf_bd _) rfl rfl (fun w39 Iw39 sw39 kw39 uw39 => ?_)
                clear kw39 uw39
                refine sf_iinc (L' := [(5, .inl (.int v15)), (4, .inl (.int v13)), (0, .inl (.ref 1)), (1, .inl (.int a_good)), (2, .inl (.int x2))]) sf_c1 rfl rfl (by omega) (fun v40 ev40 => ?_)
                refine sf_can (L' := [(0, .inl (.ref 1)), (1, .inl (.int a_good)), (2, .inl (.int x2)), (3, .inl (.int v40))]) rfl ?_
                exact i_38 w39 x2 v40 Iw39 sw39 (by omega) (by omega) (by omega)
              · refine sf_iinc (L' := [(5, .inl (.int v15)), (4, .inl (.int v13)), (0, .inl (.ref 1)), (1, .inl (.int a_good)), (2, .inl (.int x2))]) sf_c1 rfl rfl (by omega) (fun v41 ev41 => ?_)
                refine sf_can (L' := [(0, .inl (.ref 1)), (1, .inl (.int a_good)), (2, .inl (.int x2)), (3, .inl (.int v41))]) rfl ?_
                exact i_38 w x2 v41 I_w s_w (by omega) (by omega) (by omega)
          · refine sf_sw1 sf_c1 (fun h42 => ?_) (fun h42 => ?_)
            · refine sf_iload rfl ?_
              refine sf_aload rfl ?_
              refine sf_getr I_w rfl rfl ?_
              refine sf_iload rfl ?_
              refine sf_iald I_w rfl (by omega) (fun v43 lv43 uv43 ev43 => ?_)
              clear lv43 uv43
              clear ev43
              refine sf_f2_ge (fun h44 => ?_) (fun h44 => ?_)
              · refine sf_iconst sf_c0 (fun z45 ez45 => ?_)
                refine sf_zreturn (by omega) rfl rfl ?_
                refine sf_f1_eq (fun h46 => ?_) (fun h46 => absurd h46 (by omega))
                refine sf_aload rfl ?_
                refine sf_getr I_w rfl rfl ?_
                refine sf_iload rfl ?_
                refine sf_iconst sf_c0 (fun z47 ez47 => ?_)
                refine sf_zast I_w s_w rfl (by omega) (by omega) rfl rfl (fun w48 Iw48 sw48 kw48 uw48 => ?_)
                clear kw48 uw48
                refine sf_aload rfl ?_
                refine sf_getr Iw48 rfl rfl ?_
                refine sf_iload rfl ?_
                refine sf_iald Iw48 rfl (by omega) (fun v49 lv49 uv49 ev49 => ?_)
                clear lv49 uv49
                clear ev49
                refine sf_iconst sf_c2 (fun z50 ez50 => ?_)
                refine sf_f2_eq (fun h51 => ?_) (fun h51 => ?_)
                · refine sf_aload rfl ?_
                  refine sf_getr Iw48 rfl rfl ?_
                  refine sf_iload rfl ?_
                  refine sf_aload rfl ?_
                  refine sf_getr Iw48 rfl rfl ?_
                  refine sf_iload rfl ?_
                  refine sf_iald Iw48 rfl (by omega) (fun v52 lv52 uv52 ev52 => ?_)
                  clear lv52 uv52
                  clear ev52
                  refine sf_iload rfl ?_
                  refine sf_m2 rfl rfl rfl (fun v53 => ?_)
                  refine sf_iast Iw48 sw48 rfl (by omega) (sf_bd _) rfl rfl (fun w54 Iw54 sw54 kw54 uw54 => ?_)
                  clear kw54 uw54
                  refine sf_iinc (L' := [(5, .inl (.int v15)), (4, .inl (.int v13)), (0, .inl (.ref 1)), (1, .inl (.int a_good)), (2, .inl (.int x2))]) sf_c1 rfl rfl (by omega) (fun v55 ev55 => ?_)
                  refine sf_can (L' := [(0, .inl (.ref 1)), (1, .inl (.int a_good)), (2, .inl (.int x2)), (3, .inl (.int v55))]) rfl ?_
                  exact i_38 w54 x2 v55 Iw54 sw54 (by omega) (by omega) (by omega)
                · refine sf_iinc (L' := [(5, .inl (.int v15)), (4, .inl (.int v13)), (0, .inl (.ref 1)), (1, .inl (.int a_good)), (2, .inl (.int x2))]) sf_c1 rfl rfl (by omega) (fun v56 ev56 => ?_)
                  refine sf_can (L' := [(0, .inl (.ref 1)), (1, .inl (.int a_good)), (2, .inl (.int x2)), (3, .inl (.int v56))]) rfl ?_
                  exact i_38 w48 x2 v56 Iw48 sw48 (by omega) (by omega) (by omega)
              · refine sf_iconst sf_c1 (fun z57 ez57 => ?_)
                refine sf_zreturn (by omega) rfl rfl ?_
                refine sf_f1_eq (fun h58 => absurd h58 (by omega)) (fun h58 => ?_)
                refine sf_aload rfl ?_
                refine sf_getr I_w rfl rfl ?_
                refine sf_iload rfl ?_
                refine sf_iald I_w rfl (by omega) (fun v59 lv59 uv59 ev59 => ?_)
                clear lv59 uv59
                clear ev59
                refine sf_iconst sf_c2 (fun z60 ez60 => ?_)
                refine sf_f2_eq (fun h61 => ?_) (fun h61 => ?_)
                · refine sf_aload rfl ?_
                  refine sf_getr I_w rfl rfl ?_
                  refine sf_iload rfl ?_
                  refine sf_aload rfl ?_
                  refine sf_getr I_w rfl rfl ?_
                  refine sf_iload rfl ?_
                  refine sf_iald I_w rfl (by omega) (fun v62 lv62 uv62 ev62 => ?_)
                  clear lv62 uv62
                  clear ev62
                  refine sf_iload rfl ?_
                  refine sf_m2 rfl rfl rfl (fun v63 => ?_)
                  refine sf_iast I_w s_w rfl (by omega) (sf_bd _) rfl rfl (fun w64 Iw64 sw64 kw64 uw64 => ?_)
                  clear kw64 uw64
                  refine sf_iinc (L' := [(5, .inl (.int v15)), (4, .inl (.int v13)), (0, .inl (.ref 1)), (1, .inl (.int a_good)), (2, .inl (.int x2))]) sf_c1 rfl rfl (by omega) (fun v65 ev65 => ?_)
                  refine sf_can (L' := [(0, .inl (.ref 1)), (1, .inl (.int a_good)), (2, .inl (.int x2)), (3, .inl (.int v65))]) rfl ?_
                  exact i_38 w64 x2 v65 Iw64 sw64 (by omega) (by omega) (by omega)
                · refine sf_iinc (L' := [(5, .inl (.int v15)), (4, .inl (.int v13)), (0, .inl (.ref 1)), (1, .inl (.int a_good)), (2, .inl (.int x2))]) sf_c1 rfl rfl (by omega) (fun v66 ev66 => ?_)
                  refine sf_can (L' := [(0, .inl (.ref 1)), (1, .inl (.int a_good)), (2, .inl (.int x2)), (3, .inl (.int v66))]) rfl ?_
                  exact i_38 w x2 v66 I_w s_w (by omega) (by omega) (by omega)
            · refine sf_sw0 ?_
              refine sf_iload rfl ?_
              refine sf_aload rfl ?_
              refine sf_getr I_w rfl rfl ?_
              refine sf_iload rfl ?_
              refine sf_iald I_w rfl (by omega) (fun v67 lv67 uv67 ev67 => ?_)
              clear lv67 uv67
              clear ev67
              refine sf_f2_lt (fun h68 => ?_) (fun h68 => ?_)
              · refine sf_iconst sf_c0 (fun z69 ez69 => ?_)
                refine sf_zreturn (by omega) rfl rfl ?_
                refine sf_f1_eq (fun h70 => ?_) (fun h70 => absurd h70 (by omega))
                refine sf_aload rfl ?_
                refine sf_getr I_w rfl rfl ?_
                refine sf_iload rfl ?_
                refine sf_iconst sf_c0 (fun z71 ez71 => ?_)
                refine sf_zast I_w s_w rfl (by omega) (by omega) rfl rfl (fun w72 Iw72 sw72 kw72 uw72 => ?_)
                clear kw72 uw72
                refine sf_aload rfl ?_
                refine sf_getr Iw72 rfl rfl ?_
                refine sf_iload rfl ?_
                refine sf_iald Iw72 rfl (by omega) (fun v73 lv73 uv73 ev73 => ?_)
                clear lv73 uv73
                clear ev73
                refine sf_iconst sf_c2 (fun z74 ez74 => ?_)
                refine sf_f2_eq (fun h75 => ?_) (fun h75 => ?_)
                · refine sf_aload rfl ?_
                  refine sf_getr Iw72 rfl rfl ?_
                  refine sf_iload rfl ?_
                  refine sf_aload rfl ?_
                  refine sf_getr Iw72 rfl rfl ?_
                  refine sf_iload rfl ?_
                  refine sf_iald Iw72 rfl (by omega) (fun v76 lv76 uv76 ev76 => ?_)
                  clear lv76 uv76
                  clear ev76
                  refine sf_iload rfl ?_
                  refine sf_m2 rfl rfl rfl (fun v77 => ?_)
                  refine sf_iast Iw72 sw72 rfl (by omega) (sf_bd _) rfl rfl (fun w78 Iw78 sw78 kw78 uw78 => ?_)
                  clear kw78 uw78
                  refine sf_iinc (L' := [(5, .inl (.int v15)), (4, .inl (.int v13)), (0, .inl (.ref 1)), (1, .inl (.int a_good)), (2, .inl (.int x2))]) sf_c1 rfl rfl (by omega) (fun v79 ev79 => ?_)
                  refine sf_can (L' := [(0, .inl (.ref 1)), (1, .inl (.int a_good)), (2, .inl (.int x2)), (3, .inl (.int v79))]) rfl ?_
                  exact i_38 w78 x2 v79 Iw78 sw78 (by omega) (by omega) (by omega)
                · refine sf_iinc (L' := [(5, .inl (.int v15)), (4, .inl (.int v13)), (0, .inl (.ref 1)), (1, .inl (.int a_good)), (2, .inl (.int x2))]) sf_c1 rfl rfl (by omega) (fun v80 ev80 => ?_)
                  refine sf_can (L' := [(0, .inl (.ref 1)), (1, .inl (.int a_good)), (2, .inl (.int x2)), (3, .inl (.int v80))]) rfl ?_
                  exact i_38 w72 x2 v80 Iw72 sw72 (by omega) (by omega) (by omega)
              · refine sf_iload rfl ?_
                refine sf_iload rfl ?_
                refine sf_f2_lt (fun h81 => ?_) (fun h81 => ?_)
                · refine sf_iconst sf_c0 (fun z82 ez82 => ?_)
                  refine sf_zreturn (by omega) rfl rfl ?_
                  refine sf_f1_eq (fun h83 => ?_) (fun h83 => absurd h83 (by omega))
                  refine sf_aload rfl ?_
                  refine sf_getr I_w rfl rfl ?_
                  refine sf_iload rfl ?_
                  refine sf_iconst sf_c0 (fun z84 ez84 => ?_)
                  refine sf_zast I_w s_w rfl (by omega) (by omega) rfl rfl (fun w85 Iw85 sw85 kw85 uw85 => ?_)
                  clear kw85 uw85
                  refine sf_aload rfl ?_
                  refine sf_getr Iw85 rfl rfl ?_
                  refine sf_iload rfl ?_
                  refine sf_iald Iw85 rfl (by omega) (fun v86 lv86 uv86 ev86 => ?_)
                  clear lv86 uv86
                  clear ev86
                  refine sf_iconst sf_c2 (fun z87 ez87 => ?_)
                  refine sf_f2_eq (fun h88 => ?_) (fun h88 => ?_)
                  · refine sf_aload rfl ?_
                    refine sf_getr Iw85 rfl rfl ?_
                    refine sf_iload rfl ?_
                    refine sf_aload rfl ?_
                    refine sf_getr Iw85 rfl rfl ?_
                    refine sf_iload rfl ?_
                    refine sf_iald Iw85 rfl (by omega) (fun v89 lv89 uv89 ev89 => ?_)
                    clear lv89 uv89
                    clear ev89
                    refine sf_iload rfl ?_
                    refine sf_m2 rfl rfl rfl (fun v90 => ?_)
                    refine sf_iast Iw85 sw85 rfl (by omega) (sf_bd _) rfl rfl (fun w91 Iw91 sw91 kw91 uw91 => ?_)
                    clear kw91 uw91
                    refine sf_iinc (L' := [(5, .inl (.int v15)), (4, .inl (.int v13)), (0, .inl (.ref 1)), (1, .inl (.int a_good)), (2, .inl (.int x2))]) sf_c1 rfl rfl (by omega) (fun v92 ev92 => ?_)
                    refine sf_can (L' := [(0, .inl (.ref 1)), (1, .inl (.int a_good)), (2, .inl (.int x2)), (3, .inl (.int v92))]) rfl ?_
                    exact i_38 w91 x2 v92 Iw91 sw91 (by omega) (by omega) (by omega)
                  · refine sf_iinc (L' := [(5, .inl (.int v15)), (4, .inl (.int v13)), (0, .inl (.ref 1)), (1, .inl (.int a_good)), (2, .inl (.int x2))]) sf_c1 rfl rfl (by omega) (fun v93 ev93 => ?_)
                    refine sf_can (L' := [(0, .inl (.ref 1)), (1, .inl (.int a_good)), (2, .inl (.int x2)), (3, .inl (.int v93))]) rfl ?_
                    exact i_38 w85 x2 v93 Iw85 sw85 (by omega) (by omega) (by omega)
                · refine sf_iconst sf_c1 (fun z94 ez94 => ?_)
                  refine sf_zreturn (by omega) rfl rfl ?_
                  refine sf_f1_eq (fun h95 => absurd h95 (by omega)) (fun h95 => ?_)
                  refine sf_aload rfl ?_
                  refine sf_getr I_w rfl rfl ?_
                  refine sf_iload rfl ?_
                  refine sf_iald I_w rfl (by omega) (fun v96 lv96 uv96 ev96 => ?_)
                  clear lv96 uv96
                  clear ev96
                  refine sf_iconst sf_c2 (fun z97 ez97 => ?_)
                  refine sf_f2_eq (fun h98 => ?_) (fun h98 => ?_)
                  · refine sf_aload rfl ?_
                    refine sf_getr I_w rfl rfl ?_
                    refine sf_iload rfl ?_
                    refine sf_aload rfl ?_
                    refine sf_getr I_w rfl rfl ?_
                    refine sf_iload rfl ?_
                    refine sf_iald I_w rfl (by omega) (fun v99 lv99 uv99 ev99 => ?_)
                    clear lv99 uv99
                    clear ev99
                    refine sf_iload rfl ?_
                    refine sf_m2 rfl rfl rfl (fun v100 => ?_)
                    refine sf_iast I_w s_w rfl (by omega) (sf_bd _) rfl rfl (fun w101 Iw101 sw101 kw101 uw101 => ?_)
                    clear kw101 uw101
                    refine sf_iinc (L' := [(5, .inl (.int v15)), (4, .inl (.int v13)), (0, .inl (.ref 1)), (1, .inl (.int a_good)), (2, .inl (.int x2))]) sf_c1 rfl rfl (by omega) (fun v102 ev102 => ?_)
                    refine sf_can (L' := [(0, .inl (.ref 1)), (1, .inl (.int a_good)), (2, .inl (.int x2)), (3, .inl (.int v102))]) rfl ?_
                    exact i_38 w101 x2 v102 Iw101 sw101 (by omega) (by omega) (by omega)
                  · refine sf_iinc (L' := [(5, .inl (.int v15)), (4, .inl (.int v13)), (0, .inl (.ref 1)), (1, .inl (.int a_good)), (2, .inl (.int x2))]) sf_c1 rfl rfl (by omega) (fun v103 ev103 => ?_)
                    refine sf_can (L' := [(0, .inl (.ref 1)), (1, .inl (.int a_good)), (2, .inl (.int x2)), (3, .inl (.int v103))]) rfl ?_
                    exact i_38 w x2 v103 I_w s_w (by omega) (by omega) (by omega)
  have hl1 := hl 1000000000000
  obtain ⟨i_2, i_38⟩ := hl1
  clear hl
  refine sf_sp (L := [(0, .inl (.ref 1)), (1, .inl (.int a_good))]) rfl rfl ?_
  generalize ku_T_judgeByOwnNotes rt xt 1000000000000 = K at i_2 i_38 ⊢
  refine sf_iconst sf_c0 (fun z104 ez104 => ?_)
  refine sf_istore (L' := [(0, .inl (.ref 1)), (1, .inl (.int a_good))]) rfl ?_
  refine sf_can (L' := [(0, .inl (.ref 1)), (1, .inl (.int a_good)), (2, .inl (.int z104))]) rfl ?_
  exact i_2 w0 z104 hI0 hs0 (by omega) (by omega) (by omega)
def sm_T_classOf : List Nat := [11, 12]
set_option maxRecDepth 100000 in
set_option maxHeartbeats 4000000 in
theorem sc_T_classOf {w0 : wq_W} (hI0 : sf_I w0) {rt : Option wq_V → wq_W → Prop} {xt : Nat → wq_W → Prop} {a_good : Int32} (p0 : 0 ≤ a_good.toInt) (p1 : a_good.toInt ≤ 15) (hR : ∀ (r : Int32) (w : wq_W), sf_I w → sf_m sm_T_classOf w0 w → (-1) ≤ r.toInt → r.toInt ≤ 23 → rt (some (.inl (.int r))) w) : ks_T_classOf [.inl (.ref 1), .inl (.int a_good)] w0 rt xt := by
  have hs0 : sf_m sm_T_classOf w0 w0 := sf_m0
  have hl : ∀ n : Nat, (∀ (w : wq_W) (x2 : Int32) (x3 : Int32), (sf_I w) → (sf_m sm_T_classOf w0 w) → ((-1) ≤ x2.toInt) → (x2.toInt ≤ 23) → (0 ≤ x3.toInt) → (x3.toInt ≤ 24) → (24 - x3.toInt < (n : Int)) → ku_T_classOf rt xt n 9 [(0, .inl (.ref 1)), (2, .inl (.int x2)), (3, .inl (.int x3))] [] w 0 0) := by
    intro n
    induction n with
    | zero =>
      refine ?_
      · intros; omega
    | succ n ih =>
      have i_9 := ih
      intro w x2 x3 I_w s_w l_x2 u_x2 l_x3 u_x3 hm
      show kh_T_classOf_9 rt xt (ku_T_classOf rt xt n) [(0, .inl (.ref 1)), (2, .inl (.int x2)), (3, .inl (.int x3))] [] w 0 0
      generalize ku_T_classOf rt xt n = K at i_9 ⊢
      refine sf_iload rfl ?_
      refine sf_aload rfl ?_
      refine sf_geti I_w rfl rfl (fun v1 lv1 uv1 ev1 => ?_)
      rw [sf_mf s_w (p := 1) (j := 0) rfl] at ev1
      refine sf_f2_ge (fun h2 => ?_) (fun h2 => ?_)
      · refine sf_iload rfl ?_
        refine sf_ireturn rfl rfl ?_
        exact hR _ _ I_w s_w (by omega) (by omega) 
      · refine sf_aload rfl ?_
        refine sf_iload rfl ?_
        refine sf_call2 rfl rfl rfl ?_
        refine sf_rv I_w rfl ?_
        refine sf_sp (L := [(0, .inl (.ref 1)), (1, .inl (.int x3))]) rfl rfl ?_
        refine sf_aload rfl ?_
        refine sf_getr I_w rfl rfl ?_
        refine sf_iload rfl ?_
        refine sf_iald I_w rfl (by omega) (fun v3 lv3 uv3 ev3 => ?_)
        clear ev3
        refine sf_istore (L' := [(0, .inl (.ref 1)), (1, .inl (.int x3))]) rfl ?_
        refine sf_iload rfl ?_
        refine sf_iconst sf_cm1 (fun z4 ez4 => ?_)
        refine sf_f2_eq (fun h5 => ?_) (fun h5 => ?_)
        · refine sf_vreturn rfl rfl ?_
          refine sf_aload rfl ?_
          refine sf_getr I_w rfl rfl ?_
          refine sf_iload rfl ?_
          refine sf_zald I_w rfl (by omega) (fun v6 lv6 uv6 ev6 => ?_)
          clear ev6
          refine sf_f1_eq (fun h7 => ?_) (fun h7 => ?_)
          · refine sf_iinc (L' := [(0, .inl (.ref 1)), (2, .inl (.int x2))]) sf_c1 rfl rfl (by omega) (fun v8 ev8 => ?_)
            refine sf_can (L' := [(0, .inl (.ref 1)), (2, .inl (.int x2)), (3, .inl (.int v8))]) rfl ?_
            exact i_9 w x2 v8 I_w s_w (by omega) (by omega) (by omega) (by omega) (by omega)
          · refine sf_iload rfl ?_
            refine sf_iconst sf_cm1 (fun z9 ez9 => ?_)
            refine sf_f2_eq (fun h10 => ?_) (fun h10 => ?_)
            · refine sf_iload rfl ?_
              refine sf_istore (L' := [(0, .inl (.ref 1)), (3, .inl (.int x3))]) rfl ?_
              refine sf_iinc (L' := [(2, .inl (.int x3)), (0, .inl (.ref 1))]) sf_c1 rfl rfl (by omega) (fun v11 ev11 => ?_)
              refine sf_can (L' := [(0, .inl (.ref 1)), (2, .inl (.int x3)), (3, .inl (.int v11))]) rfl ?_
              exact i_9 w x3 v11 I_w s_w (by omega) (by omega) (by omega) (by omega) (by omega)
            · refine sf_aload rfl ?_
              refine sf_iload rfl ?_
              refine sf_iload rfl ?_
              refine sf_call3 rfl rfl rfl ?_
              refine sf_rv I_w rfl ?_
              refine sf_sp (L := [(0, .inl (.ref 1)), (1, .inl (.int x3)), (2, .inl (.int x2))]) rfl rfl ?_
              refine sf_aload rfl ?_
              refine sf_getr I_w rfl rfl ?_
              refine sf_iload rfl ?_
              refine sf_iald I_w rfl (by omega) (fun v12 lv12 uv12 ev12 => ?_)
              clear ev12
              refine sf_aload rfl ?_
              refine sf_getr I_w rfl rfl ?_
              refine sf_iload rfl ?_
              refine sf_iald I_w rfl (by omega) (fun v13 lv13 uv13 ev13 => ?_)
              clear ev13
              refine sf_f2_eq (fun h14 => ?_) (fun h14 => ?_)
              · refine sf_aload rfl ?_
                refine sf_getr I_w rfl rfl ?_
                refine sf_iload rfl ?_
                refine sf_iald I_w rfl (by omega) (fun v15 lv15 uv15 ev15 => ?_)
                clear lv15 uv15
                clear ev15
                refine sf_aload rfl ?_
                refine sf_getr I_w rfl rfl ?_
                refine sf_iload rfl ?_
                refine sf_iald I_w rfl (by omega) (fun v16 lv16 uv16 ev16 => ?_)
                clear lv16 uv16
                clear ev16
                refine sf_f2_lt (fun h17 => ?_) (fun h17 => ?_)
                · refine sf_iconst sf_c0 (fun z18 ez18 => ?_)
                  refine sf_zreturn (by omega) rfl rfl ?_
                  refine sf_f1_eq (fun h19 => ?_) (fun h19 => absurd h19 (by omega))
                  refine sf_iinc (L' := [(0, .inl (.ref 1)), (2, .inl (.int x2))]) sf_c1 rfl rfl (by omega) (fun v20 ev20 => ?_)
                  refine sf_can (L' := [(0, .inl (.ref 1)), (2, .inl (.int x2)), (3, .inl (.int v20))]) rfl ?_
                  exact i_9 w x2 v20 I_w s_w (by omega) (by omega) (by omega) (by omega) (by omega)
                · refine sf_iconst sf_c1 (fun z21 ez21 => ?_)
                  refine sf_zreturn (by omega) rfl rfl ?_
                  refine sf_f1_eq (fun h22 => absurd h22 (by omega)) (fun h22 => ?_)
                  refine sf_iload rfl ?_
                  refine sf_istore (L' := [(0, .inl (.ref 1)), (3, .inl (.int x3))]) rfl ?_
                  refine sf_iinc (L' := [(2, .inl (.int x3)), (0, .inl (.ref 1))]) sf_c1 rfl rfl (by omega) (fun v23 ev23 => ?_)
                  refine sf_can (L' := [(0, .inl (.ref 1)), (2, .inl (.int x3)), (3, .inl (.int v23))]) rfl ?_
                  exact i_9 w x3 v23 I_w s_w (by omega) (by omega) (by omega) (by omega) (by omega)
              · refine sf_aload rfl ?_
                refine sf_getr I_w rfl rfl ?_
                refine sf_iload rfl ?_
                refine sf_iald I_w rfl (by omega) (fun v24 lv24 uv24 ev24 => ?_)
                clear ev24
                refine sf_aload rfl ?_
                refine sf_getr I_w rfl rfl ?_
                refine sf_iload rfl ?_
                refine sf_iald I_w rfl (by omega) (fun v25 lv25 uv25 ev25 => ?_)
                clear ev25
                refine sf_f2_le (fun h26 => ?_) (fun h26 => ?_)
                · refine sf_iconst sf_c0 (fun z27 ez27 => ?_)
                  refine sf_zreturn (by omega) rfl rfl ?_
                  refine sf_f1_eq (fun h28 => ?_) (fun h28 => absurd h28 (by omega))
                  refine sf_iinc (L' := [(0, .inl (.ref 1)), (2, .inl (.int x2))]) sf_c1 rfl rfl (by omega) (fun v29 ev29 => ?_)
                  refine sf_can (L' := [(0, .inl (.ref 1)), (2, .inl (.int x2)), (3, .inl (.int v29))]) rfl ?_
                  exact i_9 w x2 v29 I_w s_w (by omega) (by omega) (by omega) (by omega) (by omega)
                · refine sf_iconst sf_c1 (fun z30 ez30 => ?_)
                  refine sf_zreturn (by omega) rfl rfl ?_
                  refine sf_f1_eq (fun h31 => absurd h31 (by omega)) (fun h31 => ?_)
                  refine sf_iload rfl ?_
                  refine sf_istore (L' := [(0, .inl (.ref 1)), (3, .inl (.int x3))]) rfl ?_
                  refine sf_iinc (L' := [(2, .inl (.int x3)), (0, .inl (.ref 1))]) sf_c1 rfl rfl (by omega) (fun v32 ev32 => ?_)
                  refine sf_can (L' := [(0, .inl (.ref 1)), (2, .inl (.int x3)), (3, .inl (.int v32))]) rfl ?_
                  exact i_9 w x3 v32 I_w s_w (by omega) (by omega) (by omega) (by omega) (by omega)
        · refine sf_aload rfl ?_
          refine sf_getr I_w rfl rfl ?_
          refine sf_iload rfl ?_
          refine sf_aload rfl ?_
          refine sf_getr I_w rfl rfl ?_
          refine sf_iload rfl ?_
          refine sf_zald I_w rfl (by omega) (fun v33 lv33 uv33 ev33 => ?_)
          clear ev33
          refine sf_f1_eq (fun h34 => ?_) (fun h34 => ?_)
          · refine sf_iconst sf_c0 (fun z35 ez35 => ?_)
            refine sf_zast I_w s_w rfl (by omega) (by omega) rfl rfl (fun w36 Iw36 sw36 kw36 uw36 => ?_)
            clear kw36 uw36
            refine sf_aload rfl ?_
            refine sf_getr Iw36 rfl rfl ?_
            refine sf_iload rfl ?_
            refine sf_aload rfl ?_
            refine sf_getr Iw36 rfl rfl ?_
            refine sf_iload rfl ?_
            refine sf_iald Iw36 rfl (by omega) (fun v37 lv37 uv37 ev37 => ?_)
            clear lv37 uv37
            clear ev37
            refine sf_aload rfl ?_
            refine sf_getr Iw36 rfl rfl ?_
            refine sf_iload rfl ?_
            refine sf_iald Iw36 rfl (by omega) (fun v38 lv38 uv38 ev38 => ?_)
            clear lv38 uv38
            clear ev38
            refine sf_m2 rfl rfl rfl (fun v39 => ?_)
            refine sf_iast Iw36 sw36 rfl (by omega) (sf_bd _) rfl rfl (fun w40 Iw40 sw40 kw40 uw40 => ?_)
            clear kw40 uw40
            refine sf_vreturn rfl rfl ?_
            refine sf_aload rfl ?_
            refine sf_getr Iw40 rfl rfl ?_
            refine sf_iload rfl ?_
            refine sf_zald Iw40 rfl (by omega) (fun v41 lv41 uv41 ev41 => ?_)
            clear ev41
            refine sf_f1_eq (fun h42 => ?_) (fun h42 => ?_)
            · refine sf_iinc (L' := [(0, .inl (.ref 1)), (2, .inl (.int x2))]) sf_c1 rfl rfl (by omega) (fun v43 ev43 => ?_)
              refine sf_can (L' := [(0, .inl (.ref 1)), (2, .inl (.int x2)), (3, .inl (.int v43))]) rfl ?_
              exact i_9 w40 x2 v43 Iw40 sw40 (by omega) (by omega) (by omega) (by omega) (by omega)
            · refine sf_iload rfl ?_
              refine sf_iconst sf_cm1 (fun z44 ez44 => ?_)
              refine sf_f2_eq (fun h45 => ?_) (fun h45 => ?_)
              · refine sf_iload rfl ?_
                refine sf_istore (L' := [(0, .inl (.ref 1)), (3, .inl (.int x3))]) rfl ?_
                refine sf_iinc (L' := [(2, .inl (.int x3)), (0, .inl (.ref 1))]) sf_c1 rfl rfl (by omega) (fun v46 ev46 => ?_)
                refine sf_can (L' := [(0, .inl (.ref 1)), (2, .inl (.int x3)), (3, .inl (.int v46))]) rfl ?_
                exact i_9 w40 x3 v46 Iw40 sw40 (by omega) (by omega) (by omega) (by omega) (by omega)
              · refine sf_aload rfl ?_
                refine sf_iload rfl ?_
                refine sf_iload rfl ?_
                refine sf_call3 rfl rfl rfl ?_
                refine sf_rv Iw40 rfl ?_
                refine sf_sp (L := [(0, .inl (.ref 1)), (1, .inl (.int x3)), (2, .inl (.int x2))]) rfl rfl ?_
                refine sf_aload rfl ?_
                refine sf_getr Iw40 rfl rfl ?_
                refine sf_iload rfl ?_
                refine sf_iald Iw40 rfl (by omega) (fun v47 lv47 uv47 ev47 => ?_)
                clear ev47
                refine sf_aload rfl ?_
                refine sf_getr Iw40 rfl rfl ?_
                refine sf_iload rfl ?_
                refine sf_iald Iw40 rfl (by omega) (fun v48 lv48 uv48 ev48 => ?_)
                clear ev48
                refine sf_f2_eq (fun h49 => ?_) (fun h49 => ?_)
                · refine sf_aload rfl ?_
                  refine sf_getr Iw40 rfl rfl ?_
                  refine sf_iload rfl ?_
                  refine sf_iald Iw40 rfl (by omega) (fun v50 lv50 uv50 ev50 => ?_)
                  clear lv50 uv50
                  clear ev50
                  refine sf_aload rfl ?_
                  refine sf_getr Iw40 rfl rfl ?_
                  refine sf_iload rfl ?_
                  refine sf_iald Iw40 rfl (by omega) (fun v51 lv51 uv51 ev51 => ?_)
                  clear lv51 uv51
                  clear ev51
                  refine sf_f2_lt (fun h52 => ?_) (fun h52 => ?_)
                  · refine sf_iconst sf_c0 (fun z53 ez53 => ?_)
                    refine sf_zreturn (by omega) rfl rfl ?_
                    refine sf_f1_eq (fun h54 => ?_) (fun h54 => absurd h54 (by omega))
                    refine sf_iinc (L' := [(0, .inl (.ref 1)), (2, .inl (.int x2))]) sf_c1 rfl rfl (by omega) (fun v55 ev55 => ?_)
                    refine sf_can (L' := [(0, .inl (.ref 1)), (2, .inl (.int x2)), (3, .inl (.int v55))]) rfl ?_
                    exact i_9 w40 x2 v55 Iw40 sw40 (by omega) (by omega) (by omega) (by omega) (by omega)
                  · refine sf_iconst sf_c1 (fun z56 ez56 => ?_)
                    refine sf_zreturn (by omega) rfl rfl ?_
                    refine sf_f1_eq (fun h57 => absurd h57 (by omega)) (fun h57 => ?_)
                    refine sf_iload rfl ?_
                    refine sf_istore (L' := [(0, .inl (.ref 1)), (3, .inl (.int x3))]) rfl ?_
                    refine sf_iinc (L' := [(2, .inl (.int x3)), (0, .inl (.ref 1))]) sf_c1 rfl rfl (by omega) (fun v58 ev58 => ?_)
                    refine sf_can (L' := [(0, .inl (.ref 1)), (2, .inl (.int x3)), (3, .inl (.int v58))]) rfl ?_
                    exact i_9 w40 x3 v58 Iw40 sw40 (by omega) (by omega) (by omega) (by omega) (by omega)
                · refine sf_aload rfl ?_
                  refine sf_getr Iw40 rfl rfl ?_
                  refine sf_iload rfl ?_
                  refine sf_iald Iw40 rfl (by omega) (fun v59 lv59 uv59 ev59 => ?_)
                  clear ev59
                  refine sf_aload rfl ?_
                  refine sf_getr Iw40 rfl rfl ?_
                  refine sf_iload rfl ?_
                  refine sf_iald Iw40 rfl (by omega) (fun v60 lv60 uv60 ev60 => ?_)
                  clear ev60
                  refine sf_f2_le (fun h61 => ?_) (fun h61 => ?_)
                  · refine sf_iconst sf_c0 (fun z62 ez62 => ?_)
                    refine sf_zreturn (by omega) rfl rfl ?_
                    refine sf_f1_eq (fun h63 => ?_) (fun h63 => absurd h63 (by omega))
                    refine sf_iinc (L' := [(0, .inl (.ref 1)), (2, .inl (.int x2))]) sf_c1 rfl rfl (by omega) (fun v64 ev64 => ?_)
                    refine sf_can (L' := [(0, .inl (.ref 1)), (2, .inl (.int x2)), (3, .inl (.int v64))]) rfl ?_
                    exact i_9 w40 x2 v64 Iw40 sw40 (by omega) (by omega) (by omega) (by omega) (by omega)
                  · refine sf_iconst sf_c1 (fun z65 ez65 => ?_)
                    refine sf_zreturn (by omega) rfl rfl ?_
                    refine sf_f1_eq (fun h66 => absurd h66 (by omega)) (fun h66 => ?_)
                    refine sf_iload rfl ?_
                    refine sf_istore (L' := [(0, .inl (.ref 1)), (3, .inl (.int x3))]) rfl ?_
                    refine sf_iinc (L' := [(2, .inl (.int x3)), (0, .inl (.ref 1))]) sf_c1 rfl rfl (by omega) (fun v67 ev67 => ?_)
                    refine sf_can (L' := [(0, .inl (.ref 1)), (2, .inl (.int x3)), (3, .inl (.int v67))]) rfl ?_
                    exact i_9 w40 x3 v67 Iw40 sw40 (by omega) (by omega) (by omega) (by omega) (by omega)
          · refine sf_aload rfl ?_
            refine sf_getr I_w rfl rfl ?_
            refine sf_iload rfl ?_
            refine sf_zald I_w rfl (by omega) (fun v68 lv68 uv68 ev68 => ?_)
            clear ev68
            refine sf_f1_eq (fun h69 => ?_) (fun h69 => ?_)
            · refine sf_iconst sf_c0 (fun z70 ez70 => ?_)
              refine sf_zast I_w s_w rfl (by omega) (by omega) rfl rfl (fun w71 Iw71 sw71 kw71 uw71 => ?_)
              clear kw71 uw71
              refine sf_aload rfl ?_
              refine sf_getr Iw71 rfl rfl ?_
              refine sf_iload rfl ?_
              refine sf_aload rfl ?_
              refine sf_getr Iw71 rfl rfl ?_
              refine sf_iload rfl ?_
              refine sf_iald Iw71 rfl (by omega) (fun v72 lv72 uv72 ev72 => ?_)
              clear lv72 uv72
              clear ev72
              refine sf_aload rfl ?_
              refine sf_getr Iw71 rfl rfl ?_
              refine sf_iload rfl ?_
              refine sf_iald Iw71 rfl (by omega) (fun v73 lv73 uv73 ev73 => ?_)
              clear lv73 uv73
              clear ev73
              refine sf_m2 rfl rfl rfl (fun v74 => ?_)
              refine sf_iast Iw71 sw71 rfl (by omega) (sf_bd _) rfl rfl (fun w75 Iw75 sw75 kw75 uw75 => ?_)
              clear kw75 uw75
              refine sf_vreturn rfl rfl ?_
              refine sf_aload rfl ?_
              refine sf_getr Iw75 rfl rfl ?_
              refine sf_iload rfl ?_
              refine sf_zald Iw75 rfl (by omega) (fun v76 lv76 uv76 ev76 => ?_)
              clear ev76
              refine sf_f1_eq (fun h77 => ?_) (fun h77 => ?_)
              · refine sf_iinc (L' := [(0, .inl (.ref 1)), (2, .inl (.int x2))]) sf_c1 rfl rfl (by omega) (fun v78 ev78 => ?_)
                refine sf_can (L' := [(0, .inl (.ref 1)), (2, .inl (.int x2)), (3, .inl (.int v78))]) rfl ?_
                exact i_9 w75 x2 v78 Iw75 sw75 (by omega) (by omega) (by omega) (by omega) (by omega)
              · refine sf_iload rfl ?_
                refine sf_iconst sf_cm1 (fun z79 ez79 => ?_)
                refine sf_f2_eq (fun h80 => ?_) (fun h80 => ?_)
                · refine sf_iload rfl ?_
                  refine sf_istore (L' := [(0, .inl (.ref 1)), (3, .inl (.int x3))]) rfl ?_
                  refine sf_iinc (L' := [(2, .inl (.int x3)), (0, .inl (.ref 1))]) sf_c1 rfl rfl (by omega) (fun v81 ev81 => ?_)
                  refine sf_can (L' := [(0, .inl (.ref 1)), (2, .inl (.int x3)), (3, .inl (.int v81))]) rfl ?_
                  exact i_9 w75 x3 v81 Iw75 sw75 (by omega) (by omega) (by omega) (by omega) (by omega)
                · refine sf_aload rfl ?_
                  refine sf_iload rfl ?_
                  refine sf_iload rfl ?_
                  refine sf_call3 rfl rfl rfl ?_
                  refine sf_rv Iw75 rfl ?_
                  refine sf_sp (L := [(0, .inl (.ref 1)), (1, .inl (.int x3)), (2, .inl (.int x2))]) rfl rfl ?_
                  refine sf_aload rfl ?_
                  refine sf_getr Iw75 rfl rfl ?_
                  refine sf_iload rfl ?_
                  refine sf_iald Iw75 rfl (by omega) (fun v82 lv82 uv82 ev82 => ?_)
                  clear ev82
                  refine sf_aload rfl ?_
                  refine sf_getr Iw75 rfl rfl ?_
                  refine sf_iload rfl ?_
                  refine sf_iald Iw75 rfl (by omega) (fun v83 lv83 uv83 ev83 => ?_)
                  clear ev83
                  refine sf_f2_eq (fun h84 => ?_) (fun h84 => ?_)
                  · refine sf_aload rfl ?_
                    refine sf_getr Iw75 rfl rfl ?_
                    refine sf_iload rfl ?_
                    refine sf_iald Iw75 rfl (by omega) (fun v85 lv85 uv85 ev85 => ?_)
                    clear lv85 uv85
                    clear ev85
                    refine sf_aload rfl ?_
                    refine sf_getr Iw75 rfl rfl ?_
                    refine sf_iload rfl ?_
                    refine sf_iald Iw75 rfl (by omega) (fun v86 lv86 uv86 ev86 => ?_)
                    clear lv86 uv86
                    clear ev86
                    refine sf_f2_lt (fun h87 => ?_) (fun h87 => ?_)
                    · refine sf_iconst sf_c0 (fun z88 ez88 => ?_)
                      refine sf_zreturn (by omega) rfl rfl ?_
                      refine sf_f1_eq (fun h89 => ?_) (fun h89 => absurd h89 (by omega))
                      refine sf_iinc (L' := [(0, .inl (.ref 1)), (2, .inl (.int x2))]) sf_c1 rfl rfl (by omega) (fun v90 ev90 => ?_)
                      refine sf_can (L' := [(0, .inl (.ref 1)), (2, .inl (.int x2)), (3, .inl (.int v90))]) rfl ?_
                      exact i_9 w75 x2 v90 Iw75 sw75 (by omega) (by omega) (by omega) (by omega) (by omega)
                    · refine sf_iconst sf_c1 (fun z91 ez91 => ?_)
                      refine sf_zreturn (by omega) rfl rfl ?_
                      refine sf_f1_eq (fun h92 => absurd h92 (by omega)) (fun h92 => ?_)
                      refine sf_iload rfl ?_
                      refine sf_istore (L' := [(0, .inl (.ref 1)), (3, .inl (.int x3))]) rfl ?_
                      refine sf_iinc (L' := [(2, .inl (.int x3)), (0, .inl (.ref 1))]) sf_c1 rfl rfl (by omega) (fun v93 ev93 => ?_)
                      refine sf_can (L' := [(0, .inl (.ref 1)), (2, .inl (.int x3)), (3, .inl (.int v93))]) rfl ?_
                      exact i_9 w75 x3 v93 Iw75 sw75 (by omega) (by omega) (by omega) (by omega) (by omega)
                  · refine sf_aload rfl ?_
                    refine sf_getr Iw75 rfl rfl ?_
                    refine sf_iload rfl ?_
                    refine sf_iald Iw75 rfl (by omega) (fun v94 lv94 uv94 ev94 => ?_)
                    clear ev94
                    refine sf_aload rfl ?_
                    refine sf_getr Iw75 rfl rfl ?_
                    refine sf_iload rfl ?_
                    refine sf_iald Iw75 rfl (by omega) (fun v95 lv95 uv95 ev95 => ?_)
                    clear ev95
                    refine sf_f2_le (fun h96 => ?_) (fun h96 => ?_)
                    · refine sf_iconst sf_c0 (fun z97 ez97 => ?_)
                      refine sf_zreturn (by omega) rfl rfl ?_
                      refine sf_f1_eq (fun h98 => ?_) (fun h98 => absurd h98 (by omega))
                      refine sf_iinc (L' := [(0, .inl (.ref 1)), (2, .inl (.int x2))]) sf_c1 rfl rfl (by omega) (fun v99 ev99 => ?_)
                      refine sf_can (L' := [(0, .inl (.ref 1)), (2, .inl (.int x2)), (3, .inl (.int v99))]) rfl ?_
                      exact i_9 w75 x2 v99 Iw75 sw75 (by omega) (by omega) (by omega) (by omega) (by omega)
                    · refine sf_iconst sf_c1 (fun z100 ez100 => ?_)
                      refine sf_zreturn (by omega) rfl rfl ?_
                      refine sf_f1_eq (fun h101 => absurd h101 (by omega)) (fun h101 => ?_)
                      refine sf_iload rfl ?_
                      refine sf_istore (L' := [(0, .inl (.ref 1)), (3, .inl (.int x3))]) rfl ?_
                      refine sf_iinc (L' := [(2, .inl (.int x3)), (0, .inl (.ref 1))]) sf_c1 rfl rfl (by omega) (fun v102 ev102 => ?_)
                      refine sf_can (L' := [(0, .inl (.ref 1)), (2, .inl (.int x3)), (3, .inl (.int v102))]) rfl ?_
                      exact i_9 w75 x3 v102 Iw75 sw75 (by omega) (by omega) (by omega) (by omega) (by omega)
            · refine sf_iconst sf_c1 (fun z103 ez103 => ?_)
              refine sf_zast I_w s_w rfl (by omega) (by omega) rfl rfl (fun w104 Iw104 sw104 kw104 uw104 => ?_)
              clear kw104 uw104
              refine sf_aload rfl ?_
              refine sf_getr Iw104 rfl rfl ?_
              refine sf_iload rfl ?_
              refine sf_aload rfl ?_
              refine sf_getr Iw104 rfl rfl ?_
              refine sf_iload rfl ?_
              refine sf_iald Iw104 rfl (by omega) (fun v105 lv105 uv105 ev105 => ?_)
              clear lv105 uv105
              clear ev105
              refine sf_aload rfl ?_
              refine sf_getr Iw104 rfl rfl ?_
              refine sf_iload rfl ?_
              refine sf_iald Iw104 rfl (by omega) (fun v106 lv106 uv106 ev106 => ?_)
              clear lv106 uv106
              clear ev106
              refine sf_m2 rfl rfl rfl (fun v107 => ?_)
              refine sf_iast Iw104 sw104 rfl (by omega) (sf_bd _) rfl rfl (fun w108 Iw108 sw108 kw108 uw108 => ?_)
              clear kw108 uw108
              refine sf_vreturn rfl rfl ?_
              refine sf_aload rfl ?_
              refine sf_getr Iw108 rfl rfl ?_
              refine sf_iload rfl ?_
              refine sf_zald Iw108 rfl (by omega) (fun v109 lv109 uv109 ev109 => ?_)
              clear ev109
              refine sf_f1_eq (fun h110 => ?_) (fun h110 => ?_)
              · refine sf_iinc (L' := [(0, .inl (.ref 1)), (2, .inl (.int x2))]) sf_c1 rfl rfl (by omega) (fun v111 ev111 => ?_)
                refine sf_can (L' := [(0, .inl (.ref 1)), (2, .inl (.int x2)), (3, .inl (.int v111))]) rfl ?_
                exact i_9 w108 x2 v111 Iw108 sw108 (by omega) (by omega) (by omega) (by omega) (by omega)
              · refine sf_iload rfl ?_
                refine sf_iconst sf_cm1 (fun z112 ez112 => ?_)
                refine sf_f2_eq (fun h113 => ?_) (fun h113 => ?_)
                · refine sf_iload rfl ?_
                  refine sf_istore (L' := [(0, .inl (.ref 1)), (3, .inl (.int x3))]) rfl ?_
                  refine sf_iinc (L' := [(2, .inl (.int x3)), (0, .inl (.ref 1))]) sf_c1 rfl rfl (by omega) (fun v114 ev114 => ?_)
                  refine sf_can (L' := [(0, .inl (.ref 1)), (2, .inl (.int x3)), (3, .inl (.int v114))]) rfl ?_
                  exact i_9 w108 x3 v114 Iw108 sw108 (by omega) (by omega) (by omega) (by omega) (by omega)
                · refine sf_aload rfl ?_
                  refine sf_iload rfl ?_
                  refine sf_iload rfl ?_
                  refine sf_call3 rfl rfl rfl ?_
                  refine sf_rv Iw108 rfl ?_
                  refine sf_sp (L := [(0, .inl (.ref 1)), (1, .inl (.int x3)), (2, .inl (.int x2))]) rfl rfl ?_
                  refine sf_aload rfl ?_
                  refine sf_getr Iw108 rfl rfl ?_
                  refine sf_iload rfl ?_
                  refine sf_iald Iw108 rfl (by omega) (fun v115 lv115 uv115 ev115 => ?_)
                  clear ev115
                  refine sf_aload rfl ?_
                  refine sf_getr Iw108 rfl rfl ?_
                  refine sf_iload rfl ?_
                  refine sf_iald Iw108 rfl (by omega) (fun v116 lv116 uv116 ev116 => ?_)
                  clear ev116
                  refine sf_f2_eq (fun h117 => ?_) (fun h117 => ?_)
                  · refine sf_aload rfl ?_
                    refine sf_getr Iw108 rfl rfl ?_
                    refine sf_iload rfl ?_
                    refine sf_iald Iw108 rfl (by omega) (fun v118 lv118 uv118 ev118 => ?_)
                    clear lv118 uv118
                    clear ev118
                    refine sf_aload rfl ?_
                    refine sf_getr Iw108 rfl rfl ?_
                    refine sf_iload rfl ?_
                    refine sf_iald Iw108 rfl (by omega) (fun v119 lv119 uv119 ev119 => ?_)
                    clear lv119 uv119
                    clear ev119
                    refine sf_f2_lt (fun h120 => ?_) (fun h120 => ?_)
                    · refine sf_iconst sf_c0 (fun z121 ez121 => ?_)
                      refine sf_zreturn (by omega) rfl rfl ?_
                      refine sf_f1_eq (fun h122 => ?_) (fun h122 => absurd h122 (by omega))
                      refine sf_iinc (L' := [(0, .inl (.ref 1)), (2, .inl (.int x2))]) sf_c1 rfl rfl (by omega) (fun v123 ev123 => ?_)
                      refine sf_can (L' := [(0, .inl (.ref 1)), (2, .inl (.int x2)), (3, .inl (.int v123))]) rfl ?_
                      exact i_9 w108 x2 v123 Iw108 sw108 (by omega) (by omega) (by omega) (by omega) (by omega)
                    · refine sf_iconst sf_c1 (fun z124 ez124 => ?_)
                      refine sf_zreturn (by omega) rfl rfl ?_
                      refine sf_f1_eq (fun h125 => absurd h125 (by omega)) (fun h125 => ?_)
                      refine sf_iload rfl ?_
                      refine sf_istore (L' := [(0, .inl (.ref 1)), (3, .inl (.int x3))]) rfl ?_
                      refine sf_iinc (L' := [(2, .inl (.int x3)), (0, .inl (.ref 1))]) sf_c1 rfl rfl (by omega) (fun v126 ev126 => ?_)
                      refine sf_can (L' := [(0, .inl (.ref 1)), (2, .inl (.int x3)), (3, .inl (.int v126))]) rfl ?_
                      exact i_9 w108 x3 v126 Iw108 sw108 (by omega) (by omega) (by omega) (by omega) (by omega)
                  · refine sf_aload rfl ?_
                    refine sf_getr Iw108 rfl rfl ?_
                    refine sf_iload rfl ?_
                    refine sf_iald Iw108 rfl (by omega) (fun v127 lv127 uv127 ev127 => ?_)
                    clear ev127
                    refine sf_aload rfl ?_
                    refine sf_getr Iw108 rfl rfl ?_
                    refine sf_iload rfl ?_
                    refine sf_iald Iw108 rfl (by omega) (fun v128 lv128 uv128 ev128 => ?_)
                    clear ev128
                    refine sf_f2_le (fun h129 => ?_) (fun h129 => ?_)
                    · refine sf_iconst sf_c0 (fun z130 ez130 => ?_)
                      refine sf_zreturn (by omega) rfl rfl ?_
                      refine sf_f1_eq (fun h131 => ?_) (fun h131 => absurd h131 (by omega))
                      refine sf_iinc (L' := [(0, .inl (.ref 1)), (2, .inl (.int x2))]) sf_c1 rfl rfl (by omega) (fun v132 ev132 => ?_)
                      refine sf_can (L' := [(0, .inl (.ref 1)), (2, .inl (.int x2)), (3, .inl (.int v132))]) rfl ?_
                      exact i_9 w108 x2 v132 Iw108 sw108 (by omega) (by omega) (by omega) (by omega) (by omega)
                    · refine sf_iconst sf_c1 (fun z133 ez133 => ?_)
                      refine sf_zreturn (by omega) rfl rfl ?_
                      refine sf_f1_eq (fun h134 => absurd h134 (by omega)) (fun h134 => ?_)
                      refine sf_iload rfl ?_
                      refine sf_istore (L' := [(0, .inl (.ref 1)), (3, .inl (.int x3))]) rfl ?_
                      refine sf_iinc (L' := [(2, .inl (.int x3)), (0, .inl (.ref 1))]) sf_c1 rfl rfl (by omega) (fun v135 ev135 => ?_)
                      refine sf_can (L' := [(0, .inl (.ref 1)), (2, .inl (.int x3)), (3, .inl (.int v135))]) rfl ?_
                      exact i_9 w108 x3 v135 Iw108 sw108 (by omega) (by omega) (by omega) (by omega) (by omega)
  have hl1 := hl 1000000000000
  have i_9 := hl1
  clear hl hl1
  refine sf_sp (L := [(0, .inl (.ref 1)), (1, .inl (.int a_good))]) rfl rfl ?_
  generalize ku_T_classOf rt xt 1000000000000 = K at i_9 ⊢
  refine sf_aload rfl ?_
  refine sf_iload rfl ?_
  refine sf_call2 rfl rfl rfl ?_
  refine sf_rv hI0 rfl ?_
  refine sc_T_judgeByOwnNotes hI0 (by omega) (by omega) (fun w136 Iw136 tw136 => ?_)
  have s138 := sf_mt hs0 tw136 rfl
  refine sf_iconst sf_cm1 (fun z139 ez139 => ?_)
  refine sf_istore (L' := [(0, .inl (.ref 1)), (1, .inl (.int a_good))]) rfl ?_
  refine sf_iconst sf_c0 (fun z140 ez140 => ?_)
  refine sf_istore (L' := [(2, .inl (.int z139)), (0, .inl (.ref 1)), (1, .inl (.int a_good))]) rfl ?_
  refine sf_can (L' := [(0, .inl (.ref 1)), (2, .inl (.int z139)), (3, .inl (.int z140))]) rfl ?_
  exact i_9 w136 z139 z140 Iw136 s138 (by omega) (by omega) (by omega) (by omega) (by omega)
def sm_T_isSameOrAbove : List Nat := []
set_option maxRecDepth 100000 in
set_option maxHeartbeats 4000000 in
theorem sc_T_isSameOrAbove {w0 : wq_W} (hI0 : sf_I w0) {rt : Option wq_V → wq_W → Prop} {xt : Nat → wq_W → Prop} {a_upper : Int32} {a_heading : Int32} (p0 : 0 ≤ a_heading.toInt) (p1 : a_heading.toInt ≤ 23) (hR : ∀ (r : Int32), 0 ≤ r.toInt → r.toInt ≤ 1 → rt (some (.inl (.int r))) w0) : ks_T_isSameOrAbove [.inl (.ref 1), .inl (.int a_upper), .inl (.int a_heading)] w0 rt xt := by
  have hl : ∀ n : Nat, (∀ (x3 : Int32) (x4 : Int32), ((-1) ≤ x3.toInt) → (x3.toInt ≤ 23) → (0 ≤ x4.toInt) → (x4.toInt ≤ 6) → (6 - x4.toInt < (n : Int)) → ku_T_isSameOrAbove rt xt n 5 [(0, .inl (.ref 1)), (1, .inl (.int a_upper)), (3, .inl (.int x3)), (4, .inl (.int x4))] [] w0 0 0) := by
    intro n
    induction n with
    | zero =>
      refine ?_
      · intros; omega
    | succ n ih =>
      have i_5 := ih
      intro x3 x4 l_x3 u_x3 l_x4 u_x4 hm
      show kh_T_isSameOrAbove_5 rt xt (ku_T_isSameOrAbove rt xt n) [(0, .inl (.ref 1)), (1, .inl (.int a_upper)), (3, .inl (.int x3)), (4, .inl (.int x4))] [] w0 0 0
      generalize ku_T_isSameOrAbove rt xt n = K at i_5 ⊢
      refine sf_iload rfl ?_
      refine sf_iconst sf_c5 (fun z1 ez1 => ?_)
      refine sf_f2_gt (fun h2 => ?_) (fun h2 => ?_)
      · refine sf_iconst sf_c0 (fun z3 ez3 => ?_)
        refine sf_zreturn (by omega) rfl rfl ?_
        exact hR _ (by omega) (by omega) 
      · refine sf_iload rfl ?_
        refine sf_iconst sf_cm1 (fun z4 ez4 => ?_)
        refine sf_f2_eq (fun h5 => ?_) (fun h5 => ?_)
        · refine sf_iconst sf_c0 (fun z6 ez6 => ?_)
          refine sf_zreturn (by omega) rfl rfl ?_
          exact hR _ (by omega) (by omega) 
        · refine sf_iload rfl ?_
          refine sf_iload rfl ?_
          refine sf_f2_eq (fun h7 => ?_) (fun h7 => ?_)
          · refine sf_iconst sf_c1 (fun z8 ez8 => ?_)
            refine sf_zreturn (by omega) rfl rfl ?_
            exact hR _ (by omega) (by omega) 
          · refine sf_aload rfl ?_
            refine sf_getr hI0 rfl rfl ?_
            refine sf_iload rfl ?_
            refine sf_iald hI0 rfl (by omega) (fun v9 lv9 uv9 ev9 => ?_)
            clear ev9
            refine sf_istore (L' := [(0, .inl (.ref 1)), (1, .inl (.int a_upper)), (4, .inl (.int x4))]) rfl ?_
            refine sf_iinc (L' := [(3, .inl (.int v9)), (0, .inl (.ref 1)), (1, .inl (.int a_upper))]) sf_c1 rfl rfl (by omega) (fun v10 ev10 => ?_)
            refine sf_can (L' := [(0, .inl (.ref 1)), (1, .inl (.int a_upper)), (3, .inl (.int v9)), (4, .inl (.int v10))]) rfl ?_
            exact i_5 v9 v10 (by omega) (by omega) (by omega) (by omega) (by omega)
  have hl1 := hl 1000000000000
  have i_5 := hl1
  clear hl hl1
  refine sf_sp (L := [(0, .inl (.ref 1)), (1, .inl (.int a_upper)), (2, .inl (.int a_heading))]) rfl rfl ?_
  generalize ku_T_isSameOrAbove rt xt 1000000000000 = K at i_5 ⊢
  refine sf_iload rfl ?_
  refine sf_istore (L' := [(0, .inl (.ref 1)), (1, .inl (.int a_upper)), (2, .inl (.int a_heading))]) rfl ?_
  refine sf_iconst sf_c0 (fun z11 ez11 => ?_)
  refine sf_istore (L' := [(3, .inl (.int a_heading)), (0, .inl (.ref 1)), (1, .inl (.int a_upper)), (2, .inl (.int a_heading))]) rfl ?_
  refine sf_can (L' := [(0, .inl (.ref 1)), (1, .inl (.int a_upper)), (3, .inl (.int a_heading)), (4, .inl (.int z11))]) rfl ?_
  exact i_5 a_heading z11 (by omega) (by omega) (by omega) (by omega) (by omega)
def sm_T_headingWithRule : List Nat := []
set_option maxRecDepth 100000 in
set_option maxHeartbeats 4000000 in
theorem sc_T_headingWithRule {w0 : wq_W} (hI0 : sf_I w0) {rt : Option wq_V → wq_W → Prop} {xt : Nat → wq_W → Prop} {a_heading : Int32} (p0 : 0 ≤ a_heading.toInt) (p1 : a_heading.toInt ≤ 23) (hR : ∀ (r : Int32), (-1) ≤ r.toInt → r.toInt ≤ 23 → rt (some (.inl (.int r))) w0) : ks_T_headingWithRule [.inl (.ref 1), .inl (.int a_heading)] w0 rt xt := by
  have hl : ∀ n : Nat, (∀ (x2 : Int32) (x3 : Int32), ((-1) ≤ x2.toInt) → (x2.toInt ≤ 23) → (0 ≤ x3.toInt) → (x3.toInt ≤ 6) → (6 - x3.toInt < (n : Int)) → ku_T_headingWithRule rt xt n 4 [(0, .inl (.ref 1)), (2, .inl (.int x2)), (3, .inl (.int x3))] [] w0 0 0) := by
    intro n
    induction n with
    | zero =>
      refine ?_
      · intros; omega
    | succ n ih =>
      have i_4 := ih
      intro x2 x3 l_x2 u_x2 l_x3 u_x3 hm
      show kh_T_headingWithRule_4 rt xt (ku_T_headingWithRule rt xt n) [(0, .inl (.ref 1)), (2, .inl (.int x2)), (3, .inl (.int x3))] [] w0 0 0
      generalize ku_T_headingWithRule rt xt n = K at i_4 ⊢
      refine sf_iload rfl ?_
      refine sf_iconst sf_c5 (fun z1 ez1 => ?_)
      refine sf_f2_gt (fun h2 => ?_) (fun h2 => ?_)
      · refine sf_iconst sf_cm1 (fun z3 ez3 => ?_)
        refine sf_ireturn rfl rfl ?_
        exact hR _ (by omega) (by omega) 
      · refine sf_iload rfl ?_
        refine sf_iconst sf_cm1 (fun z4 ez4 => ?_)
        refine sf_f2_eq (fun h5 => ?_) (fun h5 => ?_)
        · refine sf_iconst sf_cm1 (fun z6 ez6 => ?_)
          refine sf_ireturn rfl rfl ?_
          exact hR _ (by omega) (by omega) 
        · refine sf_aload rfl ?_
          refine sf_getr hI0 rfl rfl ?_
          refine sf_iload rfl ?_
          refine sf_iald hI0 rfl (by omega) (fun v7 lv7 uv7 ev7 => ?_)
          clear lv7 uv7
          clear ev7
          refine sf_iconst sf_cm1 (fun z8 ez8 => ?_)
          refine sf_f2_eq (fun h9 => ?_) (fun h9 => ?_)
          · refine sf_aload rfl ?_
            refine sf_getr hI0 rfl rfl ?_
            refine sf_iload rfl ?_
            refine sf_iald hI0 rfl (by omega) (fun v10 lv10 uv10 ev10 => ?_)
            clear ev10
            refine sf_istore (L' := [(0, .inl (.ref 1)), (3, .inl (.int x3))]) rfl ?_
            refine sf_iinc (L' := [(2, .inl (.int v10)), (0, .inl (.ref 1))]) sf_c1 rfl rfl (by omega) (fun v11 ev11 => ?_)
            refine sf_can (L' := [(0, .inl (.ref 1)), (2, .inl (.int v10)), (3, .inl (.int v11))]) rfl ?_
            exact i_4 v10 v11 (by omega) (by omega) (by omega) (by omega) (by omega)
          · refine sf_iload rfl ?_
            refine sf_ireturn rfl rfl ?_
            exact hR _ (by omega) (by omega) 
  have hl1 := hl 1000000000000
  have i_4 := hl1
  clear hl hl1
  refine sf_sp (L := [(0, .inl (.ref 1)), (1, .inl (.int a_heading))]) rfl rfl ?_
  generalize ku_T_headingWithRule rt xt 1000000000000 = K at i_4 ⊢
  refine sf_iload rfl ?_
  refine sf_istore (L' := [(0, .inl (.ref 1)), (1, .inl (.int a_heading))]) rfl ?_
  refine sf_iconst sf_c0 (fun z12 ez12 => ?_)
  refine sf_istore (L' := [(2, .inl (.int a_heading)), (0, .inl (.ref 1)), (1, .inl (.int a_heading))]) rfl ?_
  refine sf_can (L' := [(0, .inl (.ref 1)), (2, .inl (.int a_heading)), (3, .inl (.int z12))]) rfl ?_
  exact i_4 a_heading z12 (by omega) (by omega) (by omega) (by omega) (by omega)
def sm_R_lastOwn : List Nat := []
set_option maxRecDepth 100000 in
set_option maxHeartbeats 4000000 in
theorem sc_R_lastOwn {w0 : wq_W} (hI0 : sf_I w0) {rt : Option wq_V → wq_W → Prop} {xt : Nat → wq_W → Prop} {a_heading : Int32} {a_land : Int32} {a_day : Int32}  (hR : ∀ (r : Int32), (-1) ≤ r.toInt → r.toInt ≤ 39 → rt (some (.inl (.int r))) w0) : ks_R_lastOwn [.inl (.ref 13), .inl (.int a_heading), .inl (.int a_land), .inl (.int a_day)] w0 rt xt := by
  have hl : ∀ n : Nat, (∀ (x4 : Int32), ((-1) ≤ x4.toInt) → (x4.toInt ≤ 39) → (x4.toInt + 1 < (n : Int)) → ku_R_lastOwn rt xt n 8 [(0, .inl (.ref 13)), (1, .inl (.int a_heading)), (2, .inl (.int a_land)), (3, .inl (.int a_day)), (4, .inl (.int x4))] [] w0 0 0) := by
    intro n
    induction n with
    | zero =>
      refine ?_
      · intros; omega
    | succ n ih =>
      have i_8 := ih
      intro x4 l_x4 u_x4 hm
      show kh_R_lastOwn_8 rt xt (ku_R_lastOwn rt xt n) [(0, .inl (.ref 13)), (1, .inl (.int a_heading)), (2, .inl (.int a_land)), (3, .inl (.int a_day)), (4, .inl (.int x4))] [] w0 0 0
      generalize ku_R_lastOwn rt xt n = K at i_8 ⊢
      refine sf_iload rfl ?_
      refine sf_f1_lt (fun h1 => ?_) (fun h1 => ?_)
      · refine sf_iconst sf_cm1 (fun z2 ez2 => ?_)
        refine sf_ireturn rfl rfl ?_
        exact hR _ (by omega) (by omega) 
      · refine sf_aload rfl ?_
        refine sf_getr hI0 rfl rfl ?_
        refine sf_iload rfl ?_
        refine sf_iald hI0 rfl (by omega) (fun v3 lv3 uv3 ev3 => ?_)
        clear lv3 uv3
        clear ev3
        refine sf_iload rfl ?_
        refine sf_f2_eq (fun h4 => ?_) (fun h4 => ?_)
        · refine sf_aload rfl ?_
          refine sf_getr hI0 rfl rfl ?_
          refine sf_iload rfl ?_
          refine sf_iald hI0 rfl (by omega) (fun v5 lv5 uv5 ev5 => ?_)
          clear lv5 uv5
          clear ev5
          refine sf_iload rfl ?_
          refine sf_f2_eq (fun h6 => ?_) (fun h6 => ?_)
          · refine sf_iload rfl ?_
            refine sf_aload rfl ?_
            refine sf_getr hI0 rfl rfl ?_
            refine sf_iload rfl ?_
            refine sf_iald hI0 rfl (by omega) (fun v7 lv7 uv7 ev7 => ?_)
            clear lv7 uv7
            clear ev7
            refine sf_aload rfl ?_
            refine sf_getr hI0 rfl rfl ?_
            refine sf_iload rfl ?_
            refine sf_iald hI0 rfl (by omega) (fun v8 lv8 uv8 ev8 => ?_)
            clear lv8 uv8
            clear ev8
            refine sf_call3 rfl rfl rfl ?_
            refine sf_sp (L := [(0, .inl (.int a_day)), (1, .inl (.int v7)), (2, .inl (.int v8))]) rfl rfl ?_
            refine sf_iload rfl ?_
            refine sf_iload rfl ?_
            refine sf_f2_gt (fun h9 => ?_) (fun h9 => ?_)
            · refine sf_iconst sf_c0 (fun z10 ez10 => ?_)
              refine sf_zreturn (by omega) rfl rfl ?_
              refine sf_f1_eq (fun h11 => ?_) (fun h11 => absurd h11 (by omega))
              refine sf_iinc (L' := [(0, .inl (.ref 13)), (1, .inl (.int a_heading)), (2, .inl (.int a_land)), (3, .inl (.int a_day))]) sf_cm1 rfl rfl (by omega) (fun v12 ev12 => ?_)
              refine sf_can (L' := [(0, .inl (.ref 13)), (1, .inl (.int a_heading)), (2, .inl (.int a_land)), (3, .inl (.int a_day)), (4, .inl (.int v12))]) rfl ?_
              exact i_8 v12 (by omega) (by omega) (by omega)
            · refine sf_iload rfl ?_
              refine sf_iload rfl ?_
              refine sf_f2_gt (fun h13 => ?_) (fun h13 => ?_)
              · refine sf_iconst sf_c0 (fun z14 ez14 => ?_)
                refine sf_zreturn (by omega) rfl rfl ?_
                refine sf_f1_eq (fun h15 => ?_) (fun h15 => absurd h15 (by omega))
                refine sf_iinc (L' := [(0, .inl (.ref 13)), (1, .inl (.int a_heading)), (2, .inl (.int a_land)), (3, .inl (.int a_day))]) sf_cm1 rfl rfl (by omega) (fun v16 ev16 => ?_)
                refine sf_can (L' := [(0, .inl (.ref 13)), (1, .inl (.int a_heading)), (2, .inl (.int a_land)), (3, .inl (.int a_day)), (4, .inl (.int v16))]) rfl ?_
                exact i_8 v16 (by omega) (by omega) (by omega)
              · refine sf_iconst sf_c1 (fun z17 ez17 => ?_)
                refine sf_zreturn (by omega) rfl rfl ?_
                refine sf_f1_eq (fun h18 => absurd h18 (by omega)) (fun h18 => ?_)
                refine sf_iload rfl ?_
                refine sf_ireturn rfl rfl ?_
                exact hR _ (by omega) (by omega) 
          · refine sf_iinc (L' := [(0, .inl (.ref 13)), (1, .inl (.int a_heading)), (2, .inl (.int a_land)), (3, .inl (.int a_day))]) sf_cm1 rfl rfl (by omega) (fun v19 ev19 => ?_)
            refine sf_can (L' := [(0, .inl (.ref 13)), (1, .inl (.int a_heading)), (2, .inl (.int a_land)), (3, .inl (.int a_day)), (4, .inl (.int v19))]) rfl ?_
            exact i_8 v19 (by omega) (by omega) (by omega)
        · refine sf_iinc (L' := [(0, .inl (.ref 13)), (1, .inl (.int a_heading)), (2, .inl (.int a_land)), (3, .inl (.int a_day))]) sf_cm1 rfl rfl (by omega) (fun v20 ev20 => ?_)
          refine sf_can (L' := [(0, .inl (.ref 13)), (1, .inl (.int a_heading)), (2, .inl (.int a_land)), (3, .inl (.int a_day)), (4, .inl (.int v20))]) rfl ?_
          exact i_8 v20 (by omega) (by omega) (by omega)
  have hl1 := hl 1000000000000
  have i_8 := hl1
  clear hl hl1
  refine sf_sp (L := [(0, .inl (.ref 13)), (1, .inl (.int a_heading)), (2, .inl (.int a_land)), (3, .inl (.int a_day))]) rfl rfl ?_
  generalize ku_R_lastOwn rt xt 1000000000000 = K at i_8 ⊢
  refine sf_aload rfl ?_
  refine sf_geti hI0 rfl rfl (fun v21 lv21 uv21 ev21 => ?_)
  refine sf_iconst sf_c1 (fun z22 ez22 => ?_)
  refine sf_isub (by omega) (fun v23 ev23 => ?_)
  refine sf_istore (L' := [(0, .inl (.ref 13)), (1, .inl (.int a_heading)), (2, .inl (.int a_land)), (3, .inl (.int a_day))]) rfl ?_
  refine sf_can (L' := [(0, .inl (.ref 13)), (1, .inl (.int a_heading)), (2, .inl (.int a_land)), (3, .inl (.int a_day)), (4, .inl (.int v23))]) rfl ?_
  exact i_8 v23 (by omega) (by omega) (by omega)
def sm_R_find : List Nat := []
set_option maxRecDepth 100000 in
set_option maxHeartbeats 4000000 in
theorem sc_R_find {w0 : wq_W} (hI0 : sf_I w0) {rt : Option wq_V → wq_W → Prop} {xt : Nat → wq_W → Prop} {a_heading : Int32} {a_land : Int32} {a_day : Int32} (p0 : 0 ≤ a_heading.toInt) (p1 : a_heading.toInt ≤ 23) (hR : ∀ (r : Int32), (-1) ≤ r.toInt → r.toInt ≤ 39 → rt (some (.inl (.int r))) w0) : ks_R_find [.inl (.ref 13), .inl (.int a_heading), .inl (.int a_land), .inl (.int a_day)] w0 rt xt := by
  have hl : ∀ n : Nat, (∀ (x4 : Int32) (x5 : Int32), ((-1) ≤ x4.toInt) → (x4.toInt ≤ 23) → (0 ≤ x5.toInt) → (x5.toInt ≤ 6) → (6 - x5.toInt < (n : Int)) → ku_R_find rt xt n 6 [(0, .inl (.ref 13)), (2, .inl (.int a_land)), (3, .inl (.int a_day)), (4, .inl (.int x4)), (5, .inl (.int x5))] [] w0 0 0) := by
    intro n
    induction n with
    | zero =>
      refine ?_
      · intros; omega
    | succ n ih =>
      have i_6 := ih
      intro x4 x5 l_x4 u_x4 l_x5 u_x5 hm
      show kh_R_find_6 rt xt (ku_R_find rt xt n) [(0, .inl (.ref 13)), (2, .inl (.int a_land)), (3, .inl (.int a_day)), (4, .inl (.int x4)), (5, .inl (.int x5))] [] w0 0 0
      generalize ku_R_find rt xt n = K at i_6 ⊢
      refine sf_iload rfl ?_
      refine sf_iconst sf_c5 (fun z1 ez1 => ?_)
      refine sf_f2_gt (fun h2 => ?_) (fun h2 => ?_)
      · refine sf_iconst sf_cm1 (fun z3 ez3 => ?_)
        refine sf_ireturn rfl rfl ?_
        exact hR _ (by omega) (by omega) 
      · refine sf_iload rfl ?_
        refine sf_iconst sf_cm1 (fun z4 ez4 => ?_)
        refine sf_f2_eq (fun h5 => ?_) (fun h5 => ?_)
        · refine sf_iconst sf_cm1 (fun z6 ez6 => ?_)
          refine sf_ireturn rfl rfl ?_
          exact hR _ (by omega) (by omega) 
        · refine sf_aload rfl ?_
          refine sf_iload rfl ?_
          refine sf_iload rfl ?_
          refine sf_iload rfl ?_
          refine sf_call4 rfl rfl rfl ?_
          refine sf_rv hI0 rfl ?_
          refine sc_R_lastOwn hI0  (fun v7 lv7 uv7 => ?_)
          refine sf_istore (L' := [(0, .inl (.ref 13)), (2, .inl (.int a_land)), (3, .inl (.int a_day)), (4, .inl (.int x4)), (5, .inl (.int x5))]) rfl ?_
          refine sf_iload rfl ?_
          refine sf_iconst sf_cm1 (fun z9 ez9 => ?_)
          refine sf_f2_eq (fun h10 => ?_) (fun h10 => ?_)
          · refine sf_aload rfl ?_
            refine sf_iload rfl ?_
            refine sf_iconst sf_cm1 (fun z11 ez11 => ?_)
            refine sf_iload rfl ?_
            refine sf_call4 rfl rfl rfl ?_
            refine sf_rv hI0 rfl ?_
            refine sc_R_lastOwn hI0  (fun v12 lv12 uv12 => ?_)
            refine sf_istore (L' := [(0, .inl (.ref 13)), (2, .inl (.int a_land)), (3, .inl (.int a_day)), (4, .inl (.int x4)), (5, .inl (.int x5))]) rfl ?_
            refine sf_iload rfl ?_
            refine sf_iconst sf_cm1 (fun z14 ez14 => ?_)
            refine sf_f2_eq (fun h15 => ?_) (fun h15 => ?_)
            · refine sf_aload rfl ?_
              refine sf_getr hI0 rfl rfl ?_
              refine sf_getr hI0 rfl rfl ?_
              refine sf_iload rfl ?_
              refine sf_iald hI0 rfl (by omega) (fun v16 lv16 uv16 ev16 => ?_)
              clear ev16
              refine sf_istore (L' := [(6, .inl (.int v12)), (0, .inl (.ref 13)), (2, .inl (.int a_land)), (3, .inl (.int a_day)), (5, .inl (.int x5))]) rfl ?_
              refine sf_iinc (L' := [(4, .inl (.int v16)), (6, .inl (.int v12)), (0, .inl (.ref 13)), (2, .inl (.int a_land)), (3, .inl (.int a_day))]) sf_c1 rfl rfl (by omega) (fun v17 ev17 => ?_)
              refine sf_can (L' := [(0, .inl (.ref 13)), (2, .inl (.int a_land)), (3, .inl (.int a_day)), (4, .inl (.int v16)), (5, .inl (.int v17))]) rfl ?_
              exact i_6 v16 v17 (by omega) (by omega) (by omega) (by omega) (by omega)
            · refine sf_iload rfl ?_
              refine sf_ireturn rfl rfl ?_
              exact hR _ (by omega) (by omega) 
          · refine sf_iload rfl ?_
            refine sf_iconst sf_cm1 (fun z18 ez18 => ?_)
            refine sf_f2_eq (fun h19 => absurd h19 (by omega)) (fun h19 => ?_)
            refine sf_iload rfl ?_
            refine sf_ireturn rfl rfl ?_
            exact hR _ (by omega) (by omega) 
  have hl1 := hl 1000000000000
  have i_6 := hl1
  clear hl hl1
  refine sf_sp (L := [(0, .inl (.ref 13)), (1, .inl (.int a_heading)), (2, .inl (.int a_land)), (3, .inl (.int a_day))]) rfl rfl ?_
  generalize ku_R_find rt xt 1000000000000 = K at i_6 ⊢
  refine sf_iload rfl ?_
  refine sf_istore (L' := [(0, .inl (.ref 13)), (1, .inl (.int a_heading)), (2, .inl (.int a_land)), (3, .inl (.int a_day))]) rfl ?_
  refine sf_iconst sf_c0 (fun z20 ez20 => ?_)
  refine sf_istore (L' := [(4, .inl (.int a_heading)), (0, .inl (.ref 13)), (1, .inl (.int a_heading)), (2, .inl (.int a_land)), (3, .inl (.int a_day))]) rfl ?_
  refine sf_can (L' := [(0, .inl (.ref 13)), (2, .inl (.int a_land)), (3, .inl (.int a_day)), (4, .inl (.int a_heading)), (5, .inl (.int z20))]) rfl ?_
  exact i_6 a_heading z20 (by omega) (by omega) (by omega) (by omega) (by omega)
def sm_Q_find : List Nat := []
set_option maxRecDepth 100000 in
set_option maxHeartbeats 4000000 in
theorem sc_Q_find {w0 : wq_W} (hI0 : sf_I w0) {rt : Option wq_V → wq_W → Prop} {xt : Nat → wq_W → Prop} {a_heading : Int32} {a_land : Int32} {a_day : Int32} (p0 : 0 ≤ a_heading.toInt) (p1 : a_heading.toInt ≤ 23) (hR : ∀ (r : Int32), (-1) ≤ r.toInt → r.toInt ≤ 7 → rt (some (.inl (.int r))) w0) : ks_Q_find [.inl (.ref 21), .inl (.int a_heading), .inl (.int a_land), .inl (.int a_day)] w0 rt xt := by
  have hl : ∀ n : Nat, (∀ (x4 : Int32), (0 ≤ x4.toInt) → (x4.toInt ≤ 8) → (8 - x4.toInt < (n : Int)) → ku_Q_find rt xt n 3 [(0, .inl (.ref 21)), (1, .inl (.int a_heading)), (2, .inl (.int a_land)), (3, .inl (.int a_day)), (4, .inl (.int x4))] [] w0 0 0) := by
    intro n
    induction n with
    | zero =>
      refine ?_
      · intros; omega
    | succ n ih =>
      have i_3 := ih
      intro x4 l_x4 u_x4 hm
      show kh_Q_find_3 rt xt (ku_Q_find rt xt n) [(0, .inl (.ref 21)), (1, .inl (.int a_heading)), (2, .inl (.int a_land)), (3, .inl (.int a_day)), (4, .inl (.int x4))] [] w0 0 0
      generalize ku_Q_find rt xt n = K at i_3 ⊢
      refine sf_iload rfl ?_
      refine sf_aload rfl ?_
      refine sf_geti hI0 rfl rfl (fun v1 lv1 uv1 ev1 => ?_)
      refine sf_f2_ge (fun h2 => ?_) (fun h2 => ?_)
      · refine sf_iconst sf_cm1 (fun z3 ez3 => ?_)
        refine sf_ireturn rfl rfl ?_
        exact hR _ (by omega) (by omega) 
      · refine sf_aload rfl ?_
        refine sf_getr hI0 rfl rfl ?_
        refine sf_iload rfl ?_
        refine sf_iald hI0 rfl (by omega) (fun v4 lv4 uv4 ev4 => ?_)
        clear lv4 uv4
        clear ev4
        refine sf_iload rfl ?_
        refine sf_f2_eq (fun h5 => ?_) (fun h5 => ?_)
        · refine sf_iload rfl ?_
          refine sf_aload rfl ?_
          refine sf_getr hI0 rfl rfl ?_
          refine sf_iload rfl ?_
          refine sf_iald hI0 rfl (by omega) (fun v6 lv6 uv6 ev6 => ?_)
          clear lv6 uv6
          clear ev6
          refine sf_aload rfl ?_
          refine sf_getr hI0 rfl rfl ?_
          refine sf_iload rfl ?_
          refine sf_iald hI0 rfl (by omega) (fun v7 lv7 uv7 ev7 => ?_)
          clear lv7 uv7
          clear ev7
          refine sf_call3 rfl rfl rfl ?_
          refine sf_sp (L := [(0, .inl (.int a_day)), (1, .inl (.int v6)), (2, .inl (.int v7))]) rfl rfl ?_
          refine sf_iload rfl ?_
          refine sf_iload rfl ?_
          refine sf_f2_gt (fun h8 => ?_) (fun h8 => ?_)
          · refine sf_iconst sf_c0 (fun z9 ez9 => ?_)
            refine sf_zreturn (by omega) rfl rfl ?_
            refine sf_f1_eq (fun h10 => ?_) (fun h10 => absurd h10 (by omega))
            refine sf_iinc (L' := [(0, .inl (.ref 21)), (1, .inl (.int a_heading)), (2, .inl (.int a_land)), (3, .inl (.int a_day))]) sf_c1 rfl rfl (by omega) (fun v11 ev11 => ?_)
            refine sf_can (L' := [(0, .inl (.ref 21)), (1, .inl (.int a_heading)), (2, .inl (.int a_land)), (3, .inl (.int a_day)), (4, .inl (.int v11))]) rfl ?_
            exact i_3 v11 (by omega) (by omega) (by omega)
          · refine sf_iload rfl ?_
            refine sf_iload rfl ?_
            refine sf_f2_gt (fun h12 => ?_) (fun h12 => ?_)
            · refine sf_iconst sf_c0 (fun z13 ez13 => ?_)
              refine sf_zreturn (by omega) rfl rfl ?_
              refine sf_f1_eq (fun h14 => ?_) (fun h14 => absurd h14 (by omega))
              refine sf_iinc (L' := [(0, .inl (.ref 21)), (1, .inl (.int a_heading)), (2, .inl (.int a_land)), (3, .inl (.int a_day))]) sf_c1 rfl rfl (by omega) (fun v15 ev15 => ?_)
              refine sf_can (L' := [(0, .inl (.ref 21)), (1, .inl (.int a_heading)), (2, .inl (.int a_land)), (3, .inl (.int a_day)), (4, .inl (.int v15))]) rfl ?_
              exact i_3 v15 (by omega) (by omega) (by omega)
            · refine sf_iconst sf_c1 (fun z16 ez16 => ?_)
              refine sf_zreturn (by omega) rfl rfl ?_
              refine sf_f1_eq (fun h17 => absurd h17 (by omega)) (fun h17 => ?_)
              refine sf_aload rfl ?_
              refine sf_getr hI0 rfl rfl ?_
              refine sf_aload rfl ?_
              refine sf_getr hI0 rfl rfl ?_
              refine sf_iload rfl ?_
              refine sf_iald hI0 rfl (by omega) (fun v18 lv18 uv18 ev18 => ?_)
              clear lv18 uv18
              clear ev18
              refine sf_iload rfl ?_
              refine sf_call3 rfl rfl rfl ?_
              refine sf_rv hI0 rfl ?_
              refine sc_T_isSameOrAbove hI0 (by omega) (by omega) (fun v19 lv19 uv19 => ?_)
              refine sf_f1_eq (fun h21 => ?_) (fun h21 => ?_)
              · refine sf_iinc (L' := [(0, .inl (.ref 21)), (1, .inl (.int a_heading)), (2, .inl (.int a_land)), (3, .inl (.int a_day))]) sf_c1 rfl rfl (by omega) (fun v22 ev22 => ?_)
                refine sf_can (L' := [(0, .inl (.ref 21)), (1, .inl (.int a_heading)), (2, .inl (.int a_land)), (3, .inl (.int a_day)), (4, .inl (.int v22))]) rfl ?_
                exact i_3 v22 (by omega) (by omega) (by omega)
              · refine sf_iload rfl ?_
                refine sf_ireturn rfl rfl ?_
                exact hR _ (by omega) (by omega) 
        · refine sf_iinc (L' := [(0, .inl (.ref 21)), (1, .inl (.int a_heading)), (2, .inl (.int a_land)), (3, .inl (.int a_day))]) sf_c1 rfl rfl (by omega) (fun v23 ev23 => ?_)
          refine sf_can (L' := [(0, .inl (.ref 21)), (1, .inl (.int a_heading)), (2, .inl (.int a_land)), (3, .inl (.int a_day)), (4, .inl (.int v23))]) rfl ?_
          exact i_3 v23 (by omega) (by omega) (by omega)
  have hl1 := hl 1000000000000
  have i_3 := hl1
  clear hl hl1
  refine sf_sp (L := [(0, .inl (.ref 21)), (1, .inl (.int a_heading)), (2, .inl (.int a_land)), (3, .inl (.int a_day))]) rfl rfl ?_
  generalize ku_Q_find rt xt 1000000000000 = K at i_3 ⊢
  refine sf_iconst sf_c0 (fun z24 ez24 => ?_)
  refine sf_istore (L' := [(0, .inl (.ref 21)), (1, .inl (.int a_heading)), (2, .inl (.int a_land)), (3, .inl (.int a_day))]) rfl ?_
  refine sf_can (L' := [(0, .inl (.ref 21)), (1, .inl (.int a_heading)), (2, .inl (.int a_land)), (3, .inl (.int a_day)), (4, .inl (.int z24))]) rfl ?_
  exact i_3 z24 (by omega) (by omega) (by omega)
def sm_O_addPart : List Nat := [30, 31, 32, 33, 34]
set_option maxRecDepth 100000 in
set_option maxHeartbeats 4000000 in
theorem sc_O_addPart {w0 : wq_W} (hI0 : sf_I w0) {rt : Option wq_V → wq_W → Prop} {xt : Nat → wq_W → Prop} {a_good : Int32} {a_part : Int32} {a_value : Int32} {a_land : Int32} (p0 : 0 ≤ a_good.toInt) (p1 : a_good.toInt ≤ 15) (p2 : 0 ≤ a_part.toInt) (p3 : a_part.toInt ≤ 15) (p4 : (sf_a w0 30 a_good.toInt.toNat).toInt < 5) (hR : ∀ (r : Int32) (w : wq_W), sf_I w → sf_m sm_O_addPart w0 w → 0 ≤ r.toInt → r.toInt ≤ 5 → rt (some (.inl (.int r))) w) : ks_O_addPart [.inl (.ref 28), .inl (.int a_good), .inl (.int a_part), .inl (.int a_value), .inl (.int a_land)] w0 rt xt := by
  have hs0 : sf_m sm_O_addPart w0 w0 := sf_m0
  have hl : ∀ n : Nat, (∀ (w : wq_W) (x6 : Int32) (x7 : Int32), (sf_I w) → (sf_m sm_O_addPart w0 w) → (0 ≤ x7.toInt) → (x7.toInt ≤ 16) → (16 - x7.toInt < (n : Int)) → ku_O_addPart rt xt n 64 [(0, .inl (.ref 28)), (1, .inl (.int a_good)), (6, .inl (.int x6)), (7, .inl (.int x7))] [] w 0 0) := by
    intro n
    induction n with
    | zero =>
      refine ?_
      · intros; omega
    | succ n ih =>
      have i_64 := ih
      intro w x6 x7 I_w s_w l_x7 u_x7 hm
      show kh_O_addPart_64 rt xt (ku_O_addPart rt xt n) [(0, .inl (.ref 28)), (1, .inl (.int a_good)), (6, .inl (.int x6)), (7, .inl (.int x7))] [] w 0 0
      generalize ku_O_addPart rt xt n = K at i_64 ⊢
      refine sf_iload rfl ?_
      refine sf_iconst sf_c16 (fun z1 ez1 => ?_)
      refine sf_f2_ge (fun h2 => ?_) (fun h2 => ?_)
      · refine sf_aload rfl ?_
        refine sf_getr I_w rfl rfl ?_
        refine sf_iload rfl ?_
        refine sf_iald I_w rfl (by omega) (fun v3 lv3 uv3 ev3 => ?_)
        refine sf_ireturn rfl rfl ?_
        exact hR _ _ I_w s_w (by omega) (by omega) 
      · refine sf_iload rfl ?_
        refine sf_iload rfl ?_
        refine sf_f2_eq (fun h4 => ?_) (fun h4 => ?_)
        · refine sf_aload rfl ?_
          refine sf_getr I_w rfl rfl ?_
          refine sf_iload rfl ?_
          refine sf_dup2 rfl rfl ?_
          refine sf_iald I_w rfl (by omega) (fun v5 lv5 uv5 ev5 => ?_)
          clear lv5 uv5
          clear ev5
          refine sf_iload rfl ?_
          refine sf_i2 (fun v6 => ?_)
          refine sf_iast I_w s_w rfl (by omega) (sf_bd _) rfl rfl (fun w7 Iw7 sw7 kw7 uw7 => ?_)
          have c8 := sf_ma kw7 (p := 30) rfl
          clear kw7 uw7
          refine sf_iinc (L' := [(0, .inl (.ref 28)), (1, .inl (.int a_good)), (6, .inl (.int x6))]) sf_c1 rfl rfl (by omega) (fun v9 ev9 => ?_)
          refine sf_can (L' := [(0, .inl (.ref 28)), (1, .inl (.int a_good)), (6, .inl (.int x6)), (7, .inl (.int v9))]) rfl ?_
          exact i_64 w7 x6 v9 Iw7 sw7 (by omega) (by omega) (by omega)
        · refine sf_aload rfl ?_
          refine sf_getr I_w rfl rfl ?_
          refine sf_iload rfl ?_
          refine sf_iald I_w rfl (by omega) (fun v10 lv10 uv10 ev10 => ?_)
          clear lv10 uv10
          clear ev10
          refine sf_iload rfl ?_
          refine sf_call2 rfl rfl rfl ?_
          refine sf_sp (L := [(0, .inl (.int v10)), (1, .inl (.int a_good))]) rfl rfl ?_
          refine sf_iload rfl ?_
          refine sf_iload rfl ?_
          refine sf_i2 (fun v11 => ?_)
          refine sf_iconst sf_c1 (fun z12 ez12 => ?_)
          refine sf_iand (n := 1) (by omega) (by decide) (fun v13 lv13 uv13 => ?_)
          refine sf_iconst sf_c1 (fun z14 ez14 => ?_)
          refine sf_f2_eq (fun h15 => ?_) (fun h15 => ?_)
          · refine sf_iconst sf_c1 (fun z16 ez16 => ?_)
            refine sf_zreturn (by omega) rfl rfl ?_
            refine sf_f1_eq (fun h17 => absurd h17 (by omega)) (fun h17 => ?_)
            refine sf_aload rfl ?_
            refine sf_getr I_w rfl rfl ?_
            refine sf_iload rfl ?_
            refine sf_dup2 rfl rfl ?_
            refine sf_iald I_w rfl (by omega) (fun v18 lv18 uv18 ev18 => ?_)
            clear lv18 uv18
            clear ev18
            refine sf_iload rfl ?_
            refine sf_i2 (fun v19 => ?_)
            refine sf_iast I_w s_w rfl (by omega) (sf_bd _) rfl rfl (fun w20 Iw20 sw20 kw20 uw20 => ?_)
            have c21 := sf_ma kw20 (p := 30) rfl
            clear kw20 uw20
            refine sf_iinc (L' := [(0, .inl (.ref 28)), (1, .inl (.int a_good)), (6, .inl (.int x6))]) sf_c1 rfl rfl (by omega) (fun v22 ev22 => ?_)
            refine sf_can (L' := [(0, .inl (.ref 28)), (1, .inl (.int a_good)), (6, .inl (.int x6)), (7, .inl (.int v22))]) rfl ?_
            exact i_64 w20 x6 v22 Iw20 sw20 (by omega) (by omega) (by omega)
          · refine sf_iconst sf_c0 (fun z23 ez23 => ?_)
            refine sf_zreturn (by omega) rfl rfl ?_
            refine sf_f1_eq (fun h24 => ?_) (fun h24 => absurd h24 (by omega))
            refine sf_iinc (L' := [(0, .inl (.ref 28)), (1, .inl (.int a_good)), (6, .inl (.int x6))]) sf_c1 rfl rfl (by omega) (fun v25 ev25 => ?_)
            refine sf_can (L' := [(0, .inl (.ref 28)), (1, .inl (.int a_good)), (6, .inl (.int x6)), (7, .inl (.int v25))]) rfl ?_
            exact i_64 w x6 v25 I_w s_w (by omega) (by omega) (by omega)
  have hl1 := hl 1000000000000
  have i_64 := hl1
  clear hl hl1
  refine sf_sp (L := [(0, .inl (.ref 28)), (1, .inl (.int a_good)), (2, .inl (.int a_part)), (3, .inl (.int a_value)), (4, .inl (.int a_land))]) rfl rfl ?_
  generalize ku_O_addPart rt xt 1000000000000 = K at i_64 ⊢
  refine sf_aload rfl ?_
  refine sf_getr hI0 rfl rfl ?_
  refine sf_iload rfl ?_
  refine sf_iald hI0 rfl (by omega) (fun v26 lv26 uv26 ev26 => ?_)
  refine sf_istore (L' := [(0, .inl (.ref 28)), (1, .inl (.int a_good)), (2, .inl (.int a_part)), (3, .inl (.int a_value)), (4, .inl (.int a_land))]) rfl ?_
  refine sf_aload rfl ?_
  refine sf_getr hI0 rfl rfl ?_
  refine sf_iload rfl ?_
  refine sf_aald hI0 rfl (by omega) ?_
  refine sf_iload rfl ?_
  refine sf_iload rfl ?_
  refine sf_gast hI0 hs0 rfl (by omega) (by omega) (by omega) rfl rfl (fun w27 Iw27 sw27 kw27 uw27 => ?_)
  have c28 := sf_ma kw27 (p := 30) rfl
  clear kw27 uw27
  refine sf_aload rfl ?_
  refine sf_getr Iw27 rfl rfl ?_
  refine sf_iload rfl ?_
  refine sf_aald Iw27 rfl (by omega) ?_
  refine sf_iload rfl ?_
  refine sf_iload rfl ?_
  refine sf_gast Iw27 sw27 rfl (by omega) (by omega) (sf_bd _) rfl rfl (fun w29 Iw29 sw29 kw29 uw29 => ?_)
  have c30 := sf_ma kw29 (p := 30) rfl
  clear kw29 uw29
  refine sf_aload rfl ?_
  refine sf_getr Iw29 rfl rfl ?_
  refine sf_iload rfl ?_
  refine sf_aald Iw29 rfl (by omega) ?_
  refine sf_iload rfl ?_
  refine sf_iload rfl ?_
  refine sf_gast Iw29 sw29 rfl (by omega) (by omega) (sf_bd _) rfl rfl (fun w31 Iw31 sw31 kw31 uw31 => ?_)
  have c32 := sf_ma kw31 (p := 30) rfl
  clear kw31 uw31
  refine sf_aload rfl ?_
  refine sf_getr Iw31 rfl rfl ?_
  refine sf_iload rfl ?_
  refine sf_dup2 rfl rfl ?_
  refine sf_iald Iw31 rfl (by omega) (fun v33 lv33 uv33 ev33 => ?_)
  rw [c32, c30, c28] at ev33
  refine sf_iconst sf_c1 (fun z34 ez34 => ?_)
  refine sf_iadd (by omega) (fun v35 ev35 => ?_)
  refine sf_iast Iw31 sw31 rfl (by omega) (by omega) rfl rfl (fun w36 Iw36 sw36 kw36 uw36 => ?_)
  clear kw36 uw36
  refine sf_aload rfl ?_
  refine sf_getr Iw36 rfl rfl ?_
  refine sf_iload rfl ?_
  refine sf_iald Iw36 rfl (by omega) (fun v37 lv37 uv37 ev37 => ?_)
  clear lv37 uv37
  clear ev37
  refine sf_iconst sf_c1 (fun z38 ez38 => ?_)
  refine sf_iload rfl ?_
  refine sf_i2 (fun v39 => ?_)
  refine sf_i2 (fun v40 => ?_)
  refine sf_istore (L' := [(5, .inl (.int v26)), (0, .inl (.ref 28)), (1, .inl (.int a_good)), (2, .inl (.int a_part)), (3, .inl (.int a_value)), (4, .inl (.int a_land))]) rfl ?_
  refine sf_iconst sf_c0 (fun z41 ez41 => ?_)
  refine sf_istore (L' := [(6, .inl (.int v40)), (5, .inl (.int v26)), (0, .inl (.ref 28)), (1, .inl (.int a_good)), (2, .inl (.int a_part)), (3, .inl (.int a_value)), (4, .inl (.int a_land))]) rfl ?_
  refine sf_can (L' := [(0, .inl (.ref 28)), (1, .inl (.int a_good)), (6, .inl (.int v40)), (7, .inl (.int z41))]) rfl ?_
  exact i_64 w36 v40 z41 Iw36 sw36 (by omega) (by omega) (by omega)
def sm_O_meetsShare : List Nat := []
set_option maxRecDepth 100000 in
set_option maxHeartbeats 4000000 in
theorem sc_O_meetsShare {w0 : wq_W} (hI0 : sf_I w0) {rt : Option wq_V → wq_W → Prop} {xt : Nat → wq_W → Prop} {a_good : Int32} {a_zone : Int32} {a_made : Int32} {a_limit : Int32} (p0 : 0 ≤ a_good.toInt) (p1 : a_good.toInt ≤ 15) (p2 : 0 ≤ a_zone.toInt) (p3 : a_zone.toInt ≤ 3) (hR : ∀ (r : Int32), 0 ≤ r.toInt → r.toInt ≤ 1 → rt (some (.inl (.int r))) w0) : ks_O_meetsShare [.inl (.ref 28), .inl (.int a_good), .inl (.int a_zone), .inl (.int a_made), .inl (.int a_limit)] w0 rt xt := by
  have hl : ∀ n : Nat, (∀ (x5 : Int64) (x7 : Int64) (x9 : Int32), (0 ≤ x9.toInt) → (x9.toInt ≤ 5) → (5 - x9.toInt < (n : Int)) → ku_O_meetsShare rt xt n 9 [(0, .inl (.ref 28)), (1, .inl (.int a_good)), (2, .inl (.int a_zone)), (3, .inl (.int a_made)), (4, .inl (.int a_limit)), (5, .inl (.long x5)), (7, .inl (.long x7)), (9, .inl (.int x9))] [] w0 0 0) := by
    intro n
    induction n with
    | zero =>
      refine ?_
      · intros; omega
    | succ n ih =>
      have i_9 := ih
      intro x5 x7 x9 l_x9 u_x9 hm
      show kh_O_meetsShare_9 rt xt (ku_O_meetsShare rt xt n) [(0, .inl (.ref 28)), (1, .inl (.int a_good)), (2, .inl (.int a_zone)), (3, .inl (.int a_made)), (4, .inl (.int a_limit)), (5, .inl (.long x5)), (7, .inl (.long x7)), (9, .inl (.int x9))] [] w0 0 0
      generalize ku_O_meetsShare rt xt n = K at i_9 ⊢
      refine sf_iload rfl ?_
      refine sf_aload rfl ?_
      refine sf_getr hI0 rfl rfl ?_
      refine sf_iload rfl ?_
      refine sf_iald hI0 rfl (by omega) (fun v1 lv1 uv1 ev1 => ?_)
      refine sf_f2_ge (fun h2 => ?_) (fun h2 => ?_)
      · refine sf_lconst (by decide : (1000 : Int64).toInt = 1000) (fun z3 ez3 => ?_)
        refine sf_lload rfl ?_
        refine sf_l2 (fun v4 => ?_)
        refine sf_iload rfl ?_
        refine sf_i2lb (fun v5 ev5 lv5 uv5 => ?_)
        refine sf_lload rfl ?_
        refine sf_l2 (fun v6 => ?_)
        refine sf_fl_gt (fun h7 => ?_) (fun h7 => ?_)
        · refine sf_iconst sf_c0 (fun z8 ez8 => ?_)
          refine sf_zreturn (by omega) rfl rfl ?_
          exact hR _ (by omega) (by omega) 
        · refine sf_iconst sf_c1 (fun z9 ez9 => ?_)
          refine sf_zreturn (by omega) rfl rfl ?_
          exact hR _ (by omega) (by omega) 
      · refine sf_aload rfl ?_
        refine sf_getr hI0 rfl rfl ?_
        refine sf_iload rfl ?_
        refine sf_aald hI0 rfl (by omega) ?_
        refine sf_iload rfl ?_
        refine sf_gald hI0 rfl (by omega) (by omega) (fun v10 lv10 uv10 ev10 => ?_)
        clear ev10
        refine sf_istore (L' := [(0, .inl (.ref 28)), (1, .inl (.int a_good)), (2, .inl (.int a_zone)), (3, .inl (.int a_made)), (4, .inl (.int a_limit)), (5, .inl (.long x5)), (7, .inl (.long x7)), (9, .inl (.int x9))]) rfl ?_
        refine sf_lload rfl ?_
        refine sf_iload rfl ?_
        refine sf_i2lb (fun v11 ev11 lv11 uv11 => ?_)
        refine sf_l2 (fun v12 => ?_)
        refine sf_lstore (L' := [(10, .inl (.int v10)), (0, .inl (.ref 28)), (1, .inl (.int a_good)), (2, .inl (.int a_zone)), (3, .inl (.int a_made)), (4, .inl (.int a_limit)), (5, .inl (.long x5)), (9, .inl (.int x9))]) rfl ?_
        refine sf_aload rfl ?_
        refine sf_iload rfl ?_
        refine sf_iload rfl ?_
        refine sf_iload rfl ?_
        refine sf_iload rfl ?_
        refine sf_call5 rfl rfl rfl ?_
        refine sf_rv hI0 rfl ?_
        refine sf_sp (L := [(0, .inl (.ref 28)), (1, .inl (.int a_good)), (2, .inl (.int x9)), (3, .inl (.int a_zone)), (4, .inl (.int a_made))]) rfl rfl ?_
        refine sf_aload rfl ?_
        refine sf_getr hI0 rfl rfl ?_
        refine sf_iload rfl ?_
        refine sf_aald hI0 rfl (by omega) ?_
        refine sf_iload rfl ?_
        refine sf_gald hI0 rfl (by omega) (by omega) (fun v13 lv13 uv13 ev13 => ?_)
        clear ev13
        refine sf_istore (L' := [(0, .inl (.ref 28)), (1, .inl (.int a_good)), (2, .inl (.int x9)), (3, .inl (.int a_zone)), (4, .inl (.int a_made))]) rfl ?_
        refine sf_aload rfl ?_
        refine sf_getr hI0 rfl rfl ?_
        refine sf_iload rfl ?_
        refine sf_iald hI0 rfl (by omega) (fun v14 lv14 uv14 ev14 => ?_)
        clear lv14 uv14
        clear ev14
        refine sf_aload rfl ?_
        refine sf_getr hI0 rfl rfl ?_
        refine sf_iload rfl ?_
        refine sf_aald hI0 rfl (by omega) ?_
        refine sf_iload rfl ?_
        refine sf_gald hI0 rfl (by omega) (by omega) (fun v15 lv15 uv15 ev15 => ?_)
        clear ev15
        refine sf_call2 rfl rfl rfl ?_
        refine sf_sp (L := [(0, .inl (.int v14)), (1, .inl (.int v15))]) rfl rfl ?_
        refine sf_iload rfl ?_
        refine sf_iload rfl ?_
        refine sf_i2 (fun v16 => ?_)
        refine sf_iconst sf_c1 (fun z17 ez17 => ?_)
        refine sf_iand (n := 1) (by omega) (by decide) (fun v18 lv18 uv18 => ?_)
        refine sf_iconst sf_c1 (fun z19 ez19 => ?_)
        refine sf_f2_eq (fun h20 => ?_) (fun h20 => ?_)
        · refine sf_iconst sf_c1 (fun z21 ez21 => ?_)
          refine sf_zreturn (by omega) rfl rfl ?_
          refine sf_f1_eq (fun h22 => absurd h22 (by omega)) (fun h22 => ?_)
          refine sf_aload rfl ?_
          refine sf_getr hI0 rfl rfl ?_
          refine sf_iload rfl ?_
          refine sf_iald hI0 rfl (by omega) (fun v23 lv23 uv23 ev23 => ?_)
          refine sf_f1_le (fun h24 => ?_) (fun h24 => ?_)
          · refine sf_iconst sf_c0 (fun z25 ez25 => ?_)
            refine sf_zreturn (by omega) rfl rfl ?_
            refine sf_f1_eq (fun h26 => ?_) (fun h26 => absurd h26 (by omega))
            refine sf_iinc (L' := [(7, .inl (.long v12)), (10, .inl (.int v10)), (0, .inl (.ref 28)), (1, .inl (.int a_good)), (2, .inl (.int a_zone)), (3, .inl (.int a_made)), (4, .inl (.int a_limit)), (5, .inl (.long x5))]) sf_c1 rfl rfl (by omega) (fun v27 ev27 => ?_)
            refine sf_can (L' := [(0, .inl (.ref 28)), (1, .inl (.int a_good)), (2, .inl (.int a_zone)), (3, .inl (.int a_made)), (4, .inl (.int a_limit)), (5, .inl (.long x5)), (7, .inl (.long v12)), (9, .inl (.int v27))]) rfl ?_
            exact i_9 x5 v12 v27 (by omega) (by omega) (by omega)
          · refine sf_iload rfl ?_
            refine sf_iload rfl ?_
            refine sf_call2 rfl rfl rfl ?_
            refine sf_sp (L := [(0, .inl (.int a_made)), (1, .inl (.int v13))]) rfl rfl ?_
            refine sf_iload rfl ?_
            refine sf_iload rfl ?_
            refine sf_i2 (fun v28 => ?_)
            refine sf_iconst sf_c1 (fun z29 ez29 => ?_)
            refine sf_iand (n := 1) (by omega) (by decide) (fun v30 lv30 uv30 => ?_)
            refine sf_iconst sf_c1 (fun z31 ez31 => ?_)
            refine sf_f2_eq (fun h32 => ?_) (fun h32 => ?_)
            · refine sf_iconst sf_c1 (fun z33 ez33 => ?_)
              refine sf_zreturn (by omega) rfl rfl ?_
              refine sf_f1_eq (fun h34 => absurd h34 (by omega)) (fun h34 => ?_)
              refine sf_iconst sf_c0 (fun z35 ez35 => ?_)
              refine sf_zreturn (by omega) rfl rfl ?_
              refine sf_f1_eq (fun h36 => ?_) (fun h36 => absurd h36 (by omega))
              refine sf_iinc (L' := [(7, .inl (.long v12)), (10, .inl (.int v10)), (0, .inl (.ref 28)), (1, .inl (.int a_good)), (2, .inl (.int a_zone)), (3, .inl (.int a_made)), (4, .inl (.int a_limit)), (5, .inl (.long x5))]) sf_c1 rfl rfl (by omega) (fun v37 ev37 => ?_)
              refine sf_can (L' := [(0, .inl (.ref 28)), (1, .inl (.int a_good)), (2, .inl (.int a_zone)), (3, .inl (.int a_made)), (4, .inl (.int a_limit)), (5, .inl (.long x5)), (7, .inl (.long v12)), (9, .inl (.int v37))]) rfl ?_
              exact i_9 x5 v12 v37 (by omega) (by omega) (by omega)
            · refine sf_iconst sf_c0 (fun z38 ez38 => ?_)
              refine sf_zreturn (by omega) rfl rfl ?_
              refine sf_f1_eq (fun h39 => ?_) (fun h39 => absurd h39 (by omega))
              refine sf_iconst sf_c1 (fun z40 ez40 => ?_)
              refine sf_zreturn (by omega) rfl rfl ?_
              refine sf_f1_eq (fun h41 => absurd h41 (by omega)) (fun h41 => ?_)
              refine sf_lload rfl ?_
              refine sf_iload rfl ?_
              refine sf_i2lb (fun v42 ev42 lv42 uv42 => ?_)
              refine sf_l2 (fun v43 => ?_)
              refine sf_lstore (L' := [(7, .inl (.long v12)), (10, .inl (.int v10)), (0, .inl (.ref 28)), (1, .inl (.int a_good)), (2, .inl (.int a_zone)), (3, .inl (.int a_made)), (4, .inl (.int a_limit)), (9, .inl (.int x9))]) rfl ?_
              refine sf_iinc (L' := [(5, .inl (.long v43)), (7, .inl (.long v12)), (10, .inl (.int v10)), (0, .inl (.ref 28)), (1, .inl (.int a_good)), (2, .inl (.int a_zone)), (3, .inl (.int a_made)), (4, .inl (.int a_limit))]) sf_c1 rfl rfl (by omega) (fun v44 ev44 => ?_)
              refine sf_can (L' := [(0, .inl (.ref 28)), (1, .inl (.int a_good)), (2, .inl (.int a_zone)), (3, .inl (.int a_made)), (4, .inl (.int a_limit)), (5, .inl (.long v43)), (7, .inl (.long v12)), (9, .inl (.int v44))]) rfl ?_
              exact i_9 v43 v12 v44 (by omega) (by omega) (by omega)
        · refine sf_iconst sf_c0 (fun z45 ez45 => ?_)
          refine sf_zreturn (by omega) rfl rfl ?_
          refine sf_f1_eq (fun h46 => ?_) (fun h46 => absurd h46 (by omega))
          refine sf_iconst sf_c1 (fun z47 ez47 => ?_)
          refine sf_zreturn (by omega) rfl rfl ?_
          refine sf_f1_eq (fun h48 => absurd h48 (by omega)) (fun h48 => ?_)
          refine sf_lload rfl ?_
          refine sf_iload rfl ?_
          refine sf_i2lb (fun v49 ev49 lv49 uv49 => ?_)
          refine sf_l2 (fun v50 => ?_)
          refine sf_lstore (L' := [(7, .inl (.long v12)), (10, .inl (.int v10)), (0, .inl (.ref 28)), (1, .inl (.int a_good)), (2, .inl (.int a_zone)), (3, .inl (.int a_made)), (4, .inl (.int a_limit)), (9, .inl (.int x9))]) rfl ?_
          refine sf_iinc (L' := [(5, .inl (.long v50)), (7, .inl (.long v12)), (10, .inl (.int v10)), (0, .inl (.ref 28)), (1, .inl (.int a_good)), (2, .inl (.int a_zone)), (3, .inl (.int a_made)), (4, .inl (.int a_limit))]) sf_c1 rfl rfl (by omega) (fun v51 ev51 => ?_)
          refine sf_can (L' := [(0, .inl (.ref 28)), (1, .inl (.int a_good)), (2, .inl (.int a_zone)), (3, .inl (.int a_made)), (4, .inl (.int a_limit)), (5, .inl (.long v50)), (7, .inl (.long v12)), (9, .inl (.int v51))]) rfl ?_
          exact i_9 v50 v12 v51 (by omega) (by omega) (by omega)
  have hl1 := hl 1000000000000
  have i_9 := hl1
  clear hl hl1
  refine sf_sp (L := [(0, .inl (.ref 28)), (1, .inl (.int a_good)), (2, .inl (.int a_zone)), (3, .inl (.int a_made)), (4, .inl (.int a_limit))]) rfl rfl ?_
  generalize ku_O_meetsShare rt xt 1000000000000 = K at i_9 ⊢
  refine sf_lconst (by decide : (0 : Int64).toInt = 0) (fun z52 ez52 => ?_)
  refine sf_lstore (L' := [(0, .inl (.ref 28)), (1, .inl (.int a_good)), (2, .inl (.int a_zone)), (3, .inl (.int a_made)), (4, .inl (.int a_limit))]) rfl ?_
  refine sf_lconst (by decide : (0 : Int64).toInt = 0) (fun z53 ez53 => ?_)
  refine sf_lstore (L' := [(5, .inl (.long z52)), (0, .inl (.ref 28)), (1, .inl (.int a_good)), (2, .inl (.int a_zone)), (3, .inl (.int a_made)), (4, .inl (.int a_limit))]) rfl ?_
  refine sf_iconst sf_c0 (fun z54 ez54 => ?_)
  refine sf_istore (L' := [(7, .inl (.long z53)), (5, .inl (.long z52)), (0, .inl (.ref 28)), (1, .inl (.int a_good)), (2, .inl (.int a_zone)), (3, .inl (.int a_made)), (4, .inl (.int a_limit))]) rfl ?_
  refine sf_can (L' := [(0, .inl (.ref 28)), (1, .inl (.int a_good)), (2, .inl (.int a_zone)), (3, .inl (.int a_made)), (4, .inl (.int a_limit)), (5, .inl (.long z52)), (7, .inl (.long z53)), (9, .inl (.int z54))]) rfl ?_
  exact i_9 z52 z53 z54 (by omega) (by omega) (by omega)
def sm_O_meetsChange : List Nat := [11, 12]
set_option maxRecDepth 100000 in
set_option maxHeartbeats 4000000 in
theorem sc_O_meetsChange {w0 : wq_W} (hI0 : sf_I w0) {rt : Option wq_V → wq_W → Prop} {xt : Nat → wq_W → Prop} {a_good : Int32} {a_zone : Int32} {a_made : Int32} {a_own : Int32} (p0 : 0 ≤ a_good.toInt) (p1 : a_good.toInt ≤ 15) (p2 : 0 ≤ a_zone.toInt) (p3 : a_zone.toInt ≤ 3) (hR : ∀ (r : Int32) (w : wq_W), sf_I w → sf_m sm_O_meetsChange w0 w → 0 ≤ r.toInt → r.toInt ≤ 1 → rt (some (.inl (.int r))) w) : ks_O_meetsChange [.inl (.ref 28), .inl (.int a_good), .inl (.int a_zone), .inl (.int a_made), .inl (.int a_own)] w0 rt xt := by
  have hs0 : sf_m sm_O_meetsChange w0 w0 := sf_m0
  have hl : ∀ n : Nat, (∀ (w : wq_W) (x5 : Int32), (sf_I w) → (sf_m sm_O_meetsChange w0 w) → (0 ≤ x5.toInt) → (x5.toInt ≤ 5) → (5 - x5.toInt < (n : Int)) → ku_O_meetsChange rt xt n 3 [(0, .inl (.ref 28)), (1, .inl (.int a_good)), (2, .inl (.int a_zone)), (3, .inl (.int a_made)), (4, .inl (.int a_own)), (5, .inl (.int x5))] [] w 0 0) := by
    intro n
    induction n with
    | zero =>
      refine ?_
      · intros; omega
    | succ n ih =>
      have i_3 := ih
      intro w x5 I_w s_w l_x5 u_x5 hm
      show kh_O_meetsChange_3 rt xt (ku_O_meetsChange rt xt n) [(0, .inl (.ref 28)), (1, .inl (.int a_good)), (2, .inl (.int a_zone)), (3, .inl (.int a_made)), (4, .inl (.int a_own)), (5, .inl (.int x5))] [] w 0 0
      generalize ku_O_meetsChange rt xt n = K at i_3 ⊢
      refine sf_iload rfl ?_
      refine sf_aload rfl ?_
      refine sf_getr I_w rfl rfl ?_
      refine sf_iload rfl ?_
      refine sf_iald I_w rfl (by omega) (fun v1 lv1 uv1 ev1 => ?_)
      rw [sf_ma s_w (p := 30) rfl] at ev1
      refine sf_f2_ge (fun h2 => ?_) (fun h2 => ?_)
      · refine sf_iconst sf_c1 (fun z3 ez3 => ?_)
        refine sf_zreturn (by omega) rfl rfl ?_
        exact hR _ _ I_w s_w (by omega) (by omega) 
      · refine sf_aload rfl ?_
        refine sf_iload rfl ?_
        refine sf_iload rfl ?_
        refine sf_iload rfl ?_
        refine sf_iload rfl ?_
        refine sf_call5 rfl rfl rfl ?_
        refine sf_rv I_w rfl ?_
        refine sf_sp (L := [(0, .inl (.ref 28)), (1, .inl (.int a_good)), (2, .inl (.int x5)), (3, .inl (.int a_zone)), (4, .inl (.int a_made))]) rfl rfl ?_
        refine sf_aload rfl ?_
        refine sf_getr I_w rfl rfl ?_
        refine sf_iload rfl ?_
        refine sf_aald I_w rfl (by omega) ?_
        refine sf_iload rfl ?_
        refine sf_gald I_w rfl (by omega) (by omega) (fun v4 lv4 uv4 ev4 => ?_)
        clear ev4
        refine sf_istore (L' := [(0, .inl (.ref 28)), (1, .inl (.int a_good)), (2, .inl (.int x5)), (3, .inl (.int a_zone)), (4, .inl (.int a_made))]) rfl ?_
        refine sf_aload rfl ?_
        refine sf_getr I_w rfl rfl ?_
        refine sf_iload rfl ?_
        refine sf_iald I_w rfl (by omega) (fun v5 lv5 uv5 ev5 => ?_)
        clear lv5 uv5
        clear ev5
        refine sf_aload rfl ?_
        refine sf_getr I_w rfl rfl ?_
        refine sf_iload rfl ?_
        refine sf_aald I_w rfl (by omega) ?_
        refine sf_iload rfl ?_
        refine sf_gald I_w rfl (by omega) (by omega) (fun v6 lv6 uv6 ev6 => ?_)
        clear ev6
        refine sf_call2 rfl rfl rfl ?_
        refine sf_sp (L := [(0, .inl (.int v5)), (1, .inl (.int v6))]) rfl rfl ?_
        refine sf_iload rfl ?_
        refine sf_iload rfl ?_
        refine sf_i2 (fun v7 => ?_)
        refine sf_iconst sf_c1 (fun z8 ez8 => ?_)
        refine sf_iand (n := 1) (by omega) (by decide) (fun v9 lv9 uv9 => ?_)
        refine sf_iconst sf_c1 (fun z10 ez10 => ?_)
        refine sf_f2_eq (fun h11 => ?_) (fun h11 => ?_)
        · refine sf_iconst sf_c1 (fun z12 ez12 => ?_)
          refine sf_zreturn (by omega) rfl rfl ?_
          refine sf_f1_eq (fun h13 => absurd h13 (by omega)) (fun h13 => ?_)
          refine sf_aload rfl ?_
          refine sf_getr I_w rfl rfl ?_
          refine sf_iload rfl ?_
          refine sf_iald I_w rfl (by omega) (fun v14 lv14 uv14 ev14 => ?_)
          rw [sf_ma s_w (p := 30) rfl] at ev14
          refine sf_f1_le (fun h15 => ?_) (fun h15 => ?_)
          · refine sf_iconst sf_c0 (fun z16 ez16 => ?_)
            refine sf_zreturn (by omega) rfl rfl ?_
            refine sf_f1_eq (fun h17 => ?_) (fun h17 => absurd h17 (by omega))
            refine sf_iinc (L' := [(0, .inl (.ref 28)), (1, .inl (.int a_good)), (2, .inl (.int a_zone)), (3, .inl (.int a_made)), (4, .inl (.int a_own))]) sf_c1 rfl rfl (by omega) (fun v18 ev18 => ?_)
            refine sf_can (L' := [(0, .inl (.ref 28)), (1, .inl (.int a_good)), (2, .inl (.int a_zone)), (3, .inl (.int a_made)), (4, .inl (.int a_own)), (5, .inl (.int v18))]) rfl ?_
            exact i_3 w v18 I_w s_w (by omega) (by omega) (by omega)
          · refine sf_iload rfl ?_
            refine sf_iload rfl ?_
            refine sf_call2 rfl rfl rfl ?_
            refine sf_sp (L := [(0, .inl (.int a_made)), (1, .inl (.int v4))]) rfl rfl ?_
            refine sf_iload rfl ?_
            refine sf_iload rfl ?_
            refine sf_i2 (fun v19 => ?_)
            refine sf_iconst sf_c1 (fun z20 ez20 => ?_)
            refine sf_iand (n := 1) (by omega) (by decide) (fun v21 lv21 uv21 => ?_)
            refine sf_iconst sf_c1 (fun z22 ez22 => ?_)
            refine sf_f2_eq (fun h23 => ?_) (fun h23 => ?_)
            · refine sf_iconst sf_c1 (fun z24 ez24 => ?_)
              refine sf_zreturn (by omega) rfl rfl ?_
              refine sf_f1_eq (fun h25 => absurd h25 (by omega)) (fun h25 => ?_)
              refine sf_iconst sf_c0 (fun z26 ez26 => ?_)
              refine sf_zreturn (by omega) rfl rfl ?_
              refine sf_f1_eq (fun h27 => ?_) (fun h27 => absurd h27 (by omega))
              refine sf_iinc (L' := [(0, .inl (.ref 28)), (1, .inl (.int a_good)), (2, .inl (.int a_zone)), (3, .inl (.int a_made)), (4, .inl (.int a_own))]) sf_c1 rfl rfl (by omega) (fun v28 ev28 => ?_)
              refine sf_can (L' := [(0, .inl (.ref 28)), (1, .inl (.int a_good)), (2, .inl (.int a_zone)), (3, .inl (.int a_made)), (4, .inl (.int a_own)), (5, .inl (.int v28))]) rfl ?_
              exact i_3 w v28 I_w s_w (by omega) (by omega) (by omega)
            · refine sf_iconst sf_c0 (fun z29 ez29 => ?_)
              refine sf_zreturn (by omega) rfl rfl ?_
              refine sf_f1_eq (fun h30 => ?_) (fun h30 => absurd h30 (by omega))
              refine sf_iconst sf_c1 (fun z31 ez31 => ?_)
              refine sf_zreturn (by omega) rfl rfl ?_
              refine sf_f1_eq (fun h32 => absurd h32 (by omega)) (fun h32 => ?_)
              refine sf_aload rfl ?_
              refine sf_getr I_w rfl rfl ?_
              refine sf_aload rfl ?_
              refine sf_getr I_w rfl rfl ?_
              refine sf_iload rfl ?_
              refine sf_aald I_w rfl (by omega) ?_
              refine sf_iload rfl ?_
              refine sf_gald I_w rfl (by omega) (by omega) (fun v33 lv33 uv33 ev33 => ?_)
              clear ev33
              refine sf_call2 rfl rfl rfl ?_
              refine sf_rv I_w rfl ?_
              refine sc_T_classOf I_w (by omega) (by omega) (fun v34 w35 Iw35 tw35 lv34 uv34 => ?_)
              have s37 := sf_mt s_w tw35 rfl
              refine sf_iload rfl ?_
              refine sf_f2_eq (fun h38 => ?_) (fun h38 => ?_)
              · refine sf_iconst sf_c0 (fun z39 ez39 => ?_)
                refine sf_zreturn (by omega) rfl rfl ?_
                exact hR _ _ Iw35 s37 (by omega) (by omega) 
              · refine sf_iinc (L' := [(0, .inl (.ref 28)), (1, .inl (.int a_good)), (2, .inl (.int a_zone)), (3, .inl (.int a_made)), (4, .inl (.int a_own))]) sf_c1 rfl rfl (by omega) (fun v40 ev40 => ?_)
                refine sf_can (L' := [(0, .inl (.ref 28)), (1, .inl (.int a_good)), (2, .inl (.int a_zone)), (3, .inl (.int a_made)), (4, .inl (.int a_own)), (5, .inl (.int v40))]) rfl ?_
                exact i_3 w35 v40 Iw35 s37 (by omega) (by omega) (by omega)
        · refine sf_iconst sf_c0 (fun z41 ez41 => ?_)
          refine sf_zreturn (by omega) rfl rfl ?_
          refine sf_f1_eq (fun h42 => ?_) (fun h42 => absurd h42 (by omega))
          refine sf_iconst sf_c1 (fun z43 ez43 => ?_)
          refine sf_zreturn (by omega) rfl rfl ?_
          refine sf_f1_eq (fun h44 => absurd h44 (by omega)) (fun h44 => ?_)
          refine sf_aload rfl ?_
          refine sf_getr I_w rfl rfl ?_
          refine sf_aload rfl ?_
          refine sf_getr I_w rfl rfl ?_
          refine sf_iload rfl ?_
          refine sf_aald I_w rfl (by omega) ?_
          refine sf_iload rfl ?_
          refine sf_gald I_w rfl (by omega) (by omega) (fun v45 lv45 uv45 ev45 => ?_)
          clear ev45
          refine sf_call2 rfl rfl rfl ?_
          refine sf_rv I_w rfl ?_
          refine sc_T_classOf I_w (by omega) (by omega) (fun v46 w47 Iw47 tw47 lv46 uv46 => ?_)
          have s49 := sf_mt s_w tw47 rfl
          refine sf_iload rfl ?_
          refine sf_f2_eq (fun h50 => ?_) (fun h50 => ?_)
          · refine sf_iconst sf_c0 (fun z51 ez51 => ?_)
            refine sf_zreturn (by omega) rfl rfl ?_
            exact hR _ _ Iw47 s49 (by omega) (by omega) 
          · refine sf_iinc (L' := [(0, .inl (.ref 28)), (1, .inl (.int a_good)), (2, .inl (.int a_zone)), (3, .inl (.int a_made)), (4, .inl (.int a_own))]) sf_c1 rfl rfl (by omega) (fun v52 ev52 => ?_)
            refine sf_can (L' := [(0, .inl (.ref 28)), (1, .inl (.int a_good)), (2, .inl (.int a_zone)), (3, .inl (.int a_made)), (4, .inl (.int a_own)), (5, .inl (.int v52))]) rfl ?_
            exact i_3 w47 v52 Iw47 s49 (by omega) (by omega) (by omega)
  have hl1 := hl 1000000000000
  have i_3 := hl1
  clear hl hl1
  refine sf_sp (L := [(0, .inl (.ref 28)), (1, .inl (.int a_good)), (2, .inl (.int a_zone)), (3, .inl (.int a_made)), (4, .inl (.int a_own))]) rfl rfl ?_
  generalize ku_O_meetsChange rt xt 1000000000000 = K at i_3 ⊢
  refine sf_iconst sf_c0 (fun z53 ez53 => ?_)
  refine sf_istore (L' := [(0, .inl (.ref 28)), (1, .inl (.int a_good)), (2, .inl (.int a_zone)), (3, .inl (.int a_made)), (4, .inl (.int a_own))]) rfl ?_
  refine sf_can (L' := [(0, .inl (.ref 28)), (1, .inl (.int a_good)), (2, .inl (.int a_zone)), (3, .inl (.int a_made)), (4, .inl (.int a_own)), (5, .inl (.int z53))]) rfl ?_
  exact i_3 w0 z53 hI0 hs0 (by omega) (by omega) (by omega)
def sm_O_meetsRule : List Nat := [11, 12]
set_option maxRecDepth 100000 in
set_option maxHeartbeats 4000000 in
theorem sc_O_meetsRule {w0 : wq_W} (hI0 : sf_I w0) {rt : Option wq_V → wq_W → Prop} {xt : Nat → wq_W → Prop} {a_good : Int32} {a_zone : Int32} {a_made : Int32} (p0 : 0 ≤ a_good.toInt) (p1 : a_good.toInt ≤ 15) (p2 : 0 ≤ a_zone.toInt) (p3 : a_zone.toInt ≤ 3) (hR : ∀ (r : Int32) (w : wq_W), sf_I w → sf_m sm_O_meetsRule w0 w → 0 ≤ r.toInt → r.toInt ≤ 1 → rt (some (.inl (.int r))) w) : ks_O_meetsRule [.inl (.ref 28), .inl (.int a_good), .inl (.int a_zone), .inl (.int a_made)] w0 rt xt := by
  have hs0 : sf_m sm_O_meetsRule w0 w0 := sf_m0
  refine sf_sp (L := [(0, .inl (.ref 28)), (1, .inl (.int a_good)), (2, .inl (.int a_zone)), (3, .inl (.int a_made))]) rfl rfl ?_
  refine sf_aload rfl ?_
  refine sf_getr hI0 rfl rfl ?_
  refine sf_iload rfl ?_
  refine sf_iald hI0 rfl (by omega) (fun v1 lv1 uv1 ev1 => ?_)
  refine sf_f1_eq (fun h2 => ?_) (fun h2 => ?_)
  · refine sf_iconst sf_cm1 (fun z3 ez3 => ?_)
    refine sf_istore (L' := [(0, .inl (.ref 28)), (1, .inl (.int a_good)), (2, .inl (.int a_zone)), (3, .inl (.int a_made))]) rfl ?_
    refine sf_iload rfl ?_
    refine sf_iconst sf_cm1 (fun z4 ez4 => ?_)
    refine sf_f2_eq (fun h5 => ?_) (fun h5 => absurd h5 (by omega))
    refine sf_iconst sf_cm1 (fun z6 ez6 => ?_)
    refine sf_istore (L' := [(4, .inl (.int z3)), (0, .inl (.ref 28)), (1, .inl (.int a_good)), (2, .inl (.int a_zone)), (3, .inl (.int a_made))]) rfl ?_
    refine sf_iload rfl ?_
    refine sf_iconst sf_cm1 (fun z7 ez7 => ?_)
    refine sf_f2_eq (fun h8 => ?_) (fun h8 => absurd h8 (by omega))
    refine sf_iconst sf_c0 (fun z9 ez9 => ?_)
    refine sf_zreturn (by omega) rfl rfl ?_
    exact hR _ _ hI0 hs0 (by omega) (by omega) 
  · refine sf_aload rfl ?_
    refine sf_getr hI0 rfl rfl ?_
    refine sf_iload rfl ?_
    refine sf_call2 rfl rfl rfl ?_
    refine sf_rv hI0 rfl ?_
    refine sc_T_classOf hI0 (by omega) (by omega) (fun v10 w11 Iw11 tw11 lv10 uv10 => ?_)
    have s13 := sf_mt hs0 tw11 rfl
    refine sf_istore (L' := [(0, .inl (.ref 28)), (1, .inl (.int a_good)), (2, .inl (.int a_zone)), (3, .inl (.int a_made))]) rfl ?_
    refine sf_iload rfl ?_
    refine sf_iconst sf_cm1 (fun z14 ez14 => ?_)
    refine sf_f2_eq (fun h15 => ?_) (fun h15 => ?_)
    · refine sf_iconst sf_cm1 (fun z16 ez16 => ?_)
      refine sf_istore (L' := [(4, .inl (.int v10)), (0, .inl (.ref 28)), (1, .inl (.int a_good)), (2, .inl (.int a_zone)), (3, .inl (.int a_made))]) rfl ?_
      refine sf_iload rfl ?_
      refine sf_iconst sf_cm1 (fun z17 ez17 => ?_)
      refine sf_f2_eq (fun h18 => ?_) (fun h18 => absurd h18 (by omega))
      refine sf_iconst sf_c0 (fun z19 ez19 => ?_)
      refine sf_zreturn (by omega) rfl rfl ?_
      exact hR _ _ Iw11 s13 (by omega) (by omega) 
    · refine sf_aload rfl ?_
      refine sf_getr Iw11 rfl rfl ?_
      refine sf_iload rfl ?_
      refine sf_call2 rfl rfl rfl ?_
      refine sf_rv Iw11 rfl ?_
      refine sc_T_headingWithRule Iw11 (by omega) (by omega) (fun v20 lv20 uv20 => ?_)
      refine sf_istore (L' := [(4, .inl (.int v10)), (0, .inl (.ref 28)), (1, .inl (.int a_good)), (2, .inl (.int a_zone)), (3, .inl (.int a_made))]) rfl ?_
      refine sf_iload rfl ?_
      refine sf_iconst sf_cm1 (fun z22 ez22 => ?_)
      refine sf_f2_eq (fun h23 => ?_) (fun h23 => ?_)
      · refine sf_iconst sf_c0 (fun z24 ez24 => ?_)
        refine sf_zreturn (by omega) rfl rfl ?_
        exact hR _ _ Iw11 s13 (by omega) (by omega) 
      · refine sf_aload rfl ?_
        refine sf_getr Iw11 rfl rfl ?_
        refine sf_getr Iw11 rfl rfl ?_
        refine sf_iload rfl ?_
        refine sf_iald Iw11 rfl (by omega) (fun v25 lv25 uv25 ev25 => ?_)
        clear lv25 uv25
        clear ev25
        refine sf_f1_eq (fun h26 => ?_) (fun h26 => ?_)
        · refine sf_aload rfl ?_
          refine sf_iload rfl ?_
          refine sf_iload rfl ?_
          refine sf_iload rfl ?_
          refine sf_iload rfl ?_
          refine sf_call5 rfl rfl rfl ?_
          refine sf_rv Iw11 rfl ?_
          refine sc_O_meetsChange Iw11 (by omega) (by omega) (by omega) (by omega) (fun v27 w28 Iw28 tw28 lv27 uv27 => ?_)
          have s30 := sf_mt s13 tw28 rfl
          refine sf_zreturn (by omega) rfl rfl ?_
          exact hR _ _ Iw28 s30 (by omega) (by omega) 
        · refine sf_aload rfl ?_
          refine sf_iload rfl ?_
          refine sf_iload rfl ?_
          refine sf_iload rfl ?_
          refine sf_aload rfl ?_
          refine sf_getr Iw11 rfl rfl ?_
          refine sf_getr Iw11 rfl rfl ?_
          refine sf_iload rfl ?_
          refine sf_iald Iw11 rfl (by omega) (fun v31 lv31 uv31 ev31 => ?_)
          clear lv31 uv31
          clear ev31
          refine sf_call5 rfl rfl rfl ?_
          refine sf_rv Iw11 rfl ?_
          refine sc_O_meetsShare Iw11 (by omega) (by omega) (by omega) (by omega) (fun v32 lv32 uv32 => ?_)
          refine sf_zreturn (by omega) rfl rfl ?_
          exact hR _ _ Iw11 s13 (by omega) (by omega) 
