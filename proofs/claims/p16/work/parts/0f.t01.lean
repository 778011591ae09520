def sm_I_bitCount : List Nat := []
set_option maxRecDepth 100000 in
set_option maxHeartbeats 4000000 in
theorem sc_I_bitCount {w0 : wq_W} (hI0 : sf_I w0) {rt : Option wq_V → wq_W → Prop} {xt : Nat → wq_W → Prop} {a_l0 : Int32}  (hR : ∀ (r : Int32), 0 ≤ r.toInt → r.toInt ≤ 63 → rt (some (.inl (.int r))) w0) : ks_I_bitCount [.inl (.int a_l0)] w0 rt xt := by
  refine sf_sp (L := [(0, .inl (.int a_l0))]) rfl rfl ?_
  refine sf_iload rfl ?_
  refine sf_iload rfl ?_
  refine sf_iconst sf_c1 (fun z1 ez1 => ?_)
  refine sf_i2 (fun v2 => ?_)
  refine sf_iconst sf_cl1431655765 (fun z3 ez3 => ?_)
  refine sf_iand (n := 1431655765) (by omega) (by decide) (fun v4 lv4 uv4 => ?_)
  refine sf_i2 (fun v5 => ?_)
  refine sf_istore (L' := []) rfl ?_
  refine sf_iload rfl ?_
  refine sf_iconst sf_cl858993459 (fun z6 ez6 => ?_)
  refine sf_iand (n := 858993459) (by omega) (by decide) (fun v7 lv7 uv7 => ?_)
  refine sf_iload rfl ?_
  refine sf_iconst sf_c2 (fun z8 ez8 => ?_)
  refine sf_i2 (fun v9 => ?_)
  refine sf_iconst sf_cl858993459 (fun z10 ez10 => ?_)
  refine sf_iand (n := 858993459) (by omega) (by decide) (fun v11 lv11 uv11 => ?_)
  refine sf_iadd (by omega) (fun v12 ev12 => ?_)
  refine sf_istore (L' := []) rfl ?_
  refine sf_iload rfl ?_
  refine sf_iload rfl ?_
  refine sf_iconst sf_c4 (fun z13 ez13 => ?_)
  refine sf_i2 (fun v14 => ?_)
  refine sf_i2 (fun v15 => ?_)
  refine sf_iconst sf_cl252645135 (fun z16 ez16 => ?_)
  refine sf_iand (n := 252645135) (by omega) (by decide) (fun v17 lv17 uv17 => ?_)
  refine sf_istore (L' := []) rfl ?_
  refine sf_iload rfl ?_
  refine sf_iload rfl ?_
  refine sf_iconst sf_c8 (fun z18 ez18 => ?_)
  refine sf_i2 (fun v19 => ?_)
  refine sf_i2 (fun v20 => ?_)
  refine sf_istore (L' := []) rfl ?_
  refine sf_iload rfl ?_
  refine sf_iload rfl ?_
  refine sf_iconst sf_c16 (fun z21 ez21 => ?_)
  refine sf_i2 (fun v22 => ?_)
  refine sf_i2 (fun v23 => ?_)
  refine sf_istore (L' := []) rfl ?_
  refine sf_iload rfl ?_
  refine sf_iconst sf_c63 (fun z24 ez24 => ?_)
  refine sf_iand (n := 63) (by omega) (by decide) (fun v25 lv25 uv25 => ?_)
  refine sf_ireturn rfl rfl ?_
  exact hR _ (by omega) (by omega) 
def sm_T_greatestMaterial : List Nat := []
set_option maxRecDepth 100000 in
set_option maxHeartbeats 4000000 in
theorem sc_T_greatestMaterial {w0 : wq_W} (hI0 : sf_I w0) {rt : Option wq_V → wq_W → Prop} {xt : Nat → wq_W → Prop} {a_good : Int32} (p0 : 0 ≤ a_good.toInt) (p1 : a_good.toInt ≤ 15) (hR : ∀ (r : Int32), (r.toInt = sp_x (sp_ag (sf_g w0 10) a_good.toInt.toNat) 4) → rt (some (.inl (.int r))) w0) : ks_T_greatestMaterial [.inl (.ref 1), .inl (.int a_good)] w0 rt xt := by
  have hl : ∀ n : Nat, (∀ (x2 : Int32) (x3 : Int32), (0 ≤ x3.toInt) → (x3.toInt ≤ 4) → (x2.toInt = sp_x (sp_ag (sf_g w0 10) a_good.toInt.toNat) x3.toInt.toNat) → (4 - x3.toInt < (n : Int)) → ku_T_greatestMaterial rt xt n 4 [(0, .inl (.ref 1)), (1, .inl (.int a_good)), (2, .inl (.int x2)), (3, .inl (.int x3))] [] w0 0 0) := by
    intro n
    induction n with
    | zero =>
      refine ?_
      · intros; omega
    | succ n ih =>
      have i_4 := ih
      intro x2 x3 l_x3 u_x3 f_0 hm
      show kh_T_greatestMaterial_4 rt xt (ku_T_greatestMaterial rt xt n) [(0, .inl (.ref 1)), (1, .inl (.int a_good)), (2, .inl (.int x2)), (3, .inl (.int x3))] [] w0 0 0
      generalize ku_T_greatestMaterial rt xt n = K at i_4 ⊢
      refine sf_iload rfl ?_
      refine sf_iconst sf_c4 (fun z1 ez1 => ?_)
      refine sf_f2_ge (fun h2 => ?_) (fun h2 => ?_)
      · refine sf_iload rfl ?_
        refine sf_ireturn rfl rfl ?_
        exact hR _ (by rw [f_0]; congr 1; omega)
      · refine sf_iload rfl ?_
        refine sf_aload rfl ?_
        refine sf_getr hI0 rfl rfl ?_
        refine sf_iload rfl ?_
        refine sf_aald hI0 rfl (by omega) ?_
        refine sf_iload rfl ?_
        refine sf_gald hI0 rfl (by omega) (by omega) (fun v3 lv3 uv3 ev3 => ?_)
        refine sf_mmax rfl rfl rfl (fun v4 ev4 => ?_)
        refine sf_istore (L' := [(0, .inl (.ref 1)), (1, .inl (.int a_good)), (3, .inl (.int x3))]) rfl ?_
        refine sf_iinc (L' := [(2, .inl (.int v4)), (0, .inl (.ref 1)), (1, .inl (.int a_good))]) sf_c1 rfl rfl (by omega) (fun v5 ev5 => ?_)
        refine sf_can (L' := [(0, .inl (.ref 1)), (1, .inl (.int a_good)), (2, .inl (.int v4)), (3, .inl (.int v5))]) rfl ?_
        exact i_4 v4 v5 (by omega) (by omega) (by rw [sp_xs (n := x3.toInt.toNat) (by omega)]; have ga : sp_ag (sf_g w0 10) a_good.toInt.toNat x3.toInt.toNat = v3.toInt := ev3.symm; omega) (by omega)
  have hl1 := hl 1000000000000
  have i_4 := hl1
  clear hl hl1
  refine sf_sp (L := [(0, .inl (.ref 1)), (1, .inl (.int a_good))]) rfl rfl ?_
  generalize ku_T_greatestMaterial rt xt 1000000000000 = K at i_4 ⊢
  refine sf_iconst sf_c0 (fun z6 ez6 => ?_)
  refine sf_istore (L' := [(0, .inl (.ref 1)), (1, .inl (.int a_good))]) rfl ?_
  refine sf_iconst sf_c0 (fun z7 ez7 => ?_)
  refine sf_istore (L' := [(2, .inl (.int z6)), (0, .inl (.ref 1)), (1, .inl (.int a_good))]) rfl ?_
  refine sf_can (L' := [(0, .inl (.ref 1)), (1, .inl (.int a_good)), (2, .inl (.int z6)), (3, .inl (.int z7))]) rfl ?_
  exact i_4 z6 z7 (by omega) (by omega) (by rw [sp_xz (by omega)]; omega) (by omega)
def sm_T_judgeByOwnNotes : List Nat := [11, 12]
set_option maxRecDepth 100000 in
set_option maxHeartbeats 4000000 in
theorem sc_T_judgeByOwnNotes {w0 : wq_W} (hI0 : sf_I w0) {rt : Option wq_V → wq_W → Prop} {xt : Nat → wq_W → Prop} {a_good : Int32} (p0 : 0 ≤ a_good.toInt) (p1 : a_good.toInt ≤ 15) (hR : ∀ (w : wq_W), sf_I w → sf_m sm_T_judgeByOwnNotes w0 w → (sj_O (sf_a w 11) (sf_a w 12) (sf_a w0 6) (sf_a w0 7) (sf_a w0 8) (sf_a w0 9) (sp_ag (sf_g w0 10) a_good.toInt.toNat) (sf_f w0 1 0).toInt (sf_f w0 1 5).toInt.toNat) → rt none w) : ks_T_judgeByOwnNotes [.inl (.ref 1), .inl (.int a_good)] w0 rt xt := by
  have hs0 : sf_m sm_T_judgeByOwnNotes w0 w0 := sf_m0
  have b20 := (sf_fb hI0 (p := 1) (ci := 1) (j := 0) rfl rfl).1
  have b21 := (sf_fb hI0 (p := 1) (ci := 1) (j := 5) rfl rfl).1
  have hl : ∀ n : Nat, (∀ (w : wq_W) (x2 : Int32), (sf_I w) → (sf_m sm_T_judgeByOwnNotes w0 w) → (0 ≤ x2.toInt) → (x2.toInt ≤ 24) → (sj_1 (sf_a w 11) (sf_a w 12) x2.toInt) → (x2.toInt ≤ (sf_f w0 1 0).toInt) → (100 - x2.toInt < (n : Int)) → ku_T_judgeByOwnNotes rt xt n 2 [(0, .inl (.ref 1)), (1, .inl (.int a_good)), (2, .inl (.int x2))] [] w 0 0) ∧ (∀ (w : wq_W) (x2 : Int32) (x3 : Int32), (sf_I w) → (sf_m sm_T_judgeByOwnNotes w0 w) → (0 ≤ x3.toInt) → (x3.toInt ≤ 40) → (sj_O (sf_a w 11) (sf_a w 12) (sf_a w0 6) (sf_a w0 7) (sf_a w0 8) (sf_a w0 9) (sp_ag (sf_g w0 10) a_good.toInt.toNat) (sf_f w0 1 0).toInt x3.toInt.toNat) → (x2.toInt = sp_x (sp_ag (sf_g w0 10) a_good.toInt.toNat) 4) → (x3.toInt ≤ (sf_f w0 1 5).toInt) → (40 - x3.toInt < (n : Int)) → ku_T_judgeByOwnNotes rt xt n 38 [(0, .inl (.ref 1)), (1, .inl (.int a_good)), (2, .inl (.int x2)), (3, .inl (.int x3))] [] w 0 0) := by
    intro n
    induction n with
    | zero =>
      refine ⟨?_, ?_⟩
      · intros; omega
      · intros; omega
    | succ n ih =>
      obtain ⟨i_2, i_38⟩ := ih
      refine ⟨?_, ?_⟩
      · intro w x2 I_w s_w l_x2 u_x2 f_0 f_1 hm
        show kh_T_judgeByOwnNotes_2 rt xt (ku_T_judgeByOwnNotes rt xt n) [(0, .inl (.ref 1)), (1, .inl (.int a_good)), (2, .inl (.int x2))] [] w 0 0
        generalize ku_T_judgeByOwnNotes rt xt n = K at i_2 i_38 ⊢
        refine sf_iload rfl ?_
        refine sf_aload rfl ?_
        refine sf_geti I_w rfl rfl (fun v1 lv1 uv1 ev1 => ?_)
        rw [sf_mf s_w (p := 1) (j := 0) rfl] at ev1
        refine sf_f2_ge (fun h2 => ?_) (fun h2 => ?_)
        · refine sf_aload rfl ?_
          refine sf_iload rfl ?_
          refine sf_call2 rfl rfl rfl ?_
          refine sf_rv I_w rfl ?_
          refine sc_T_greatestMaterial I_w (by omega) (by omega) (fun v3 q4_0 => ?_)
          rw [sf_mg s_w (p := 10) rfl] at q4_0
          have gG := q4_0
          refine sf_istore (L' := [(0, .inl (.ref 1)), (1, .inl (.int a_good))]) rfl ?_
          refine sf_iconst sf_c0 (fun z5 ez5 => ?_)
          refine sf_istore (L' := [(2, .inl (.int v3)), (0, .inl (.ref 1)), (1, .inl (.int a_good))]) rfl ?_
          refine sf_can (L' := [(0, .inl (.ref 1)), (1, .inl (.int a_good)), (2, .inl (.int v3)), (3, .inl (.int z5))]) rfl ?_
          exact i_38 w v3 z5 I_w s_w (by omega) (by omega) (by exact sj_O0 f_0 (by omega) (by omega)) (by omega) (by omega) (by omega)
        · refine sf_aload rfl ?_
          refine sf_getr I_w rfl rfl ?_
          refine sf_iload rfl ?_
          refine sf_iconst sf_c1 (fun z6 ez6 => ?_)
          refine sf_zast I_w s_w rfl (by omega) (by omega) rfl rfl (fun w7 Iw7 sw7 kw7 uw7 => ?_)
          have c8 := sf_ma kw7 (p := 12) rfl
          clear kw7
          have gf := uw7
          skip
          refine sf_aload rfl ?_
          refine sf_getr Iw7 rfl rfl ?_
          refine sf_iload rfl ?_
          refine sf_iconst sf_c0 (fun z9 ez9 => ?_)
          refine sf_iast Iw7 sw7 rfl (by omega) (sf_bd _) rfl rfl (fun w10 Iw10 sw10 kw10 uw10 => ?_)
          have c11 := sf_ma kw10 (p := 11) rfl
          clear kw10
          have gs := uw10
          rw [c8] at gs
          refine sf_iinc (L' := [(0, .inl (.ref 1)), (1, .inl (.int a_good))]) sf_c1 rfl rfl (by omega) (fun v12 ev12 => ?_)
          refine sf_can (L' := [(0, .inl (.ref 1)), (1, .inl (.int a_good)), (2, .inl (.int v12))]) rfl ?_
          exact i_2 w10 v12 Iw10 sw10 (by omega) (by omega) (by rw [c11]; exact sj_1s f_0 (by omega) (by omega) gf gs (by omega) (by omega) (by omega) (by omega)) (by omega) (by omega)
      · intro w x2 x3 I_w s_w l_x3 u_x3 f_0 f_1 f_2 hm
        show kh_T_judgeByOwnNotes_38 rt xt (ku_T_judgeByOwnNotes rt xt n) [(0, .inl (.ref 1)), (1, .inl (.int a_good)), (2, .inl (.int x2)), (3, .inl (.int x3))] [] w 0 0
        generalize ku_T_judgeByOwnNotes rt xt n = K at i_2 i_38 ⊢
        refine sf_iload rfl ?_
        refine sf_aload rfl ?_
        refine sf_geti I_w rfl rfl (fun v13 lv13 uv13 ev13 => ?_)
        rw [sf_mf s_w (p := 1) (j := 5) rfl] at ev13
        refine sf_f2_ge (fun h14 => ?_) (fun h14 => ?_)
        · refine sf_vreturn rfl rfl ?_
          exact hR _ I_w s_w (by rw [show (sf_f w0 1 5).toInt.toNat = x3.toInt.toNat by omega]; exact f_0)
        · refine sf_aload rfl ?_
          refine sf_getr I_w rfl rfl ?_
          refine sf_iload rfl ?_
          refine sf_iald I_w rfl (by omega) (fun v15 lv15 uv15 ev15 => ?_)
          rw [sf_ma s_w (p := 6) rfl] at ev15
          refine sf_istore (L' := [(0, .inl (.ref 1)), (1, .inl (.int a_good)), (2, .inl (.int x2)), (3, .inl (.int x3))]) rfl ?_
          refine sf_aload rfl ?_
          refine sf_getr I_w rfl rfl ?_
          refine sf_iload rfl ?_
          refine sf_aald I_w rfl (by omega) ?_
          refine sf_aload rfl ?_
          refine sf_getr I_w rfl rfl ?_
          refine sf_iload rfl ?_
          refine sf_iald I_w rfl (by omega) (fun v16 lv16 uv16 ev16 => ?_)
          rw [sf_ma s_w (p := 8) rfl] at ev16
          have gF := ev16
          refine sf_gald I_w rfl (by omega) (by omega) (fun v17 lv17 uv17 ev17 => ?_)
          rw [sf_mg s_w (p := 10) rfl] at ev17
          have ga := sp_anc (n := x3.toInt.toNat) gF ev17 rfl
          refine sf_istore (L' := [(4, .inl (.int v15)), (0, .inl (.ref 1)), (1, .inl (.int a_good)), (2, .inl (.int x2)), (3, .inl (.int x3))]) rfl ?_
          refine sf_aload rfl ?_
          refine sf_iload rfl ?_
          refine sf_iload rfl ?_
          refine sf_iload rfl ?_
          refine sf_call4 rfl rfl rfl ?_
          refine sf_rv I_w rfl ?_
          refine sf_sp (L := [(0, .inl (.ref 1)), (1, .inl (.int x3)), (2, .inl (.int v17)), (3, .inl (.int x2))]) rfl rfl ?_
          refine sf_aload rfl ?_
          refine sf_getr I_w rfl rfl ?_
          refine sf_iload rfl ?_
          refine sf_iald I_w rfl (by omega) (fun v18 lv18 uv18 ev18 => ?_)
          rw [sf_ma s_w (p := 7) rfl] at ev18
          refine sf_sw1 sf_c0 (fun h19 => ?_) (fun h19 => ?_)
          · refine sf_iload rfl ?_
            refine sf_aload rfl ?_
            refine sf_getr I_w rfl rfl ?_
            refine sf_iload rfl ?_
            refine sf_iald I_w rfl (by omega) (fun v20 lv20 uv20 ev20 => ?_)
            clear lv20 uv20
            rw [sf_ma s_w (p := 9) rfl] at ev20
            refine sf_f2_lt (fun h21 => ?_) (fun h21 => ?_)
            · refine sf_iconst sf_c0 (fun z22 ez22 => ?_)
              refine sf_zreturn (by omega) rfl rfl ?_
              refine sf_f1_eq (fun h23 => ?_) (fun h23 => absurd h23 (by omega))
              refine sf_aload rfl ?_
              refine sf_getr I_w rfl rfl ?_
              refine sf_iload rfl ?_
              refine sf_iconst sf_c0 (fun z24 ez24 => ?_)
              refine sf_zast I_w s_w rfl (by omega) (by omega) rfl rfl (fun w25 Iw25 sw25 kw25 uw25 => ?_)
              have c26 := sf_ma kw25 (p := 12) rfl
              clear kw25
              have gf := uw25
              skip
              refine sf_aload rfl ?_
              refine sf_getr Iw25 rfl rfl ?_
              refine sf_iload rfl ?_
              refine sf_iald Iw25 rfl (by omega) (fun v27 lv27 uv27 ev27 => ?_)
              rw [sf_ma sw25 (p := 7) rfl] at ev27
              refine sf_iconst sf_c2 (fun z28 ez28 => ?_)
              refine sf_f2_eq (fun h29 => ?_) (fun h29 => ?_)
              · refine sf_aload rfl ?_
                refine sf_getr Iw25 rfl rfl ?_
                refine sf_iload rfl ?_
                refine sf_aload rfl ?_
                refine sf_getr Iw25 rfl rfl ?_
                refine sf_iload rfl ?_
                refine sf_iald Iw25 rfl (by omega) (fun v30 lv30 uv30 ev30 => ?_)
                clear lv30 uv30
                rw [c26] at ev30
                refine sf_iload rfl ?_
                refine sf_mmax rfl rfl rfl (fun v31 ev31 => ?_)
                refine sf_iast Iw25 sw25 rfl (by omega) (sf_bd _) rfl rfl (fun w32 Iw32 sw32 kw32 uw32 => ?_)
                have c33 := sf_ma kw32 (p := 11) rfl
                clear kw32
                have gs := uw32
                rw [c26] at gs
                refine sf_iinc (L' := [(5, .inl (.int v17)), (4, .inl (.int v15)), (0, .inl (.ref 1)), (1, .inl (.int a_good)), (2, .inl (.int x2))]) sf_c1 rfl rfl (by omega) (fun v34 ev34 => ?_)
                refine sf_can (L' := [(0, .inl (.ref 1)), (1, .inl (.int a_good)), (2, .inl (.int x2)), (3, .inl (.int v34))]) rfl ?_
                exact i_38 w32 x2 v34 Iw32 sw32 (by omega) (by omega) (by rw [c33]; exact sj_OS (n := x3.toInt.toNat) (q := v15.toInt.toNat) f_0 (by omega) (by omega) (Or.inr ⟨sp_hf (by omega), z24, by omega, gf⟩) (Or.inr ⟨by omega, v31, by omega, gs⟩)) (by omega) (by omega) (by omega)
              · refine sf_iinc (L' := [(5, .inl (.int v17)), (4, .inl (.int v15)), (0, .inl (.ref 1)), (1, .inl (.int a_good)), (2, .inl (.int x2))]) sf_c1 rfl rfl (by omega) (fun v35 ev35 => ?_)
                refine sf_can (L' := [(0, .inl (.ref 1)), (1, .inl (.int a_good)), (2, .inl (.int x2)), (3, .inl (.int v35))]) rfl ?_
                exact i_38 w25 x2 v35 Iw25 sw25 (by omega) (by omega) (by rw [c26]; exact sj_OS (n := x3.toInt.toNat) (q := v15.toInt.toNat) f_0 (by omega) (by omega) (Or.inr ⟨sp_hf (by omega), z24, by omega, gf⟩) (Or.inl ⟨by omega, rfl⟩)) (by omega) (by omega) (by omega)
            · refine sf_iconst sf_c1 (fun z36 ez36 => ?_)
              refine sf_zreturn (by omega) rfl rfl ?_
              refine sf_f1_eq (fun h37 => absurd h37 (by omega)) (fun h37 => ?_)
              refine sf_aload rfl ?_
              refine sf_getr I_w rfl rfl ?_
              refine sf_iload rfl ?_
              refine sf_iald I_w rfl (by omega) (fun v38 lv38 uv38 ev38 => ?_)
              rw [sf_ma s_w (p := 7) rfl] at ev38
              refine sf_iconst sf_c2 (fun z39 ez39 => ?_)
              refine sf_f2_eq (fun h40 => ?_) (fun h40 => ?_)
              · refine sf_aload rfl ?_
                refine sf_getr I_w rfl rfl ?_
                refine sf_iload rfl ?_
                refine sf_aload rfl ?_
                refine sf_getr I_w rfl rfl ?_
                refine sf_iload rfl ?_
                refine sf_iald I_w rfl (by omega) (fun v41 lv41 uv41 ev41 => ?_)
                clear lv41 uv41
                refine sf_iload rfl ?_
                refine sf_mmax rfl rfl rfl (fun v42 ev42 => ?_)
                refine sf_iast I_w s_w rfl (by omega) (sf_bd _) rfl rfl (fun w43 Iw43 sw43 kw43 uw43 => ?_)
                have c44 := sf_ma kw43 (p := 11) rfl
                clear kw43
                have gs := uw43
                skip
                refine sf_iinc (L' := [(5, .inl (.int v17)), (4, .inl (.int v15)), (0, .inl (.ref 1)), (1, .inl (.int a_good)), (2, .inl (.int x2))]) sf_c1 rfl rfl (by omega) (fun v45 ev45 => ?_)
                refine sf_can (L' := [(0, .inl (.ref 1)), (1, .inl (.int a_good)), (2, .inl (.int x2)), (3, .inl (.int v45))]) rfl ?_
                exact i_38 w43 x2 v45 Iw43 sw43 (by omega) (by omega) (by rw [c44]; exact sj_OS (n := x3.toInt.toNat) (q := v15.toInt.toNat) f_0 (by omega) (by omega) (Or.inl ⟨sp_ht (by omega), rfl⟩) (Or.inr ⟨by omega, v42, by omega, gs⟩)) (by omega) (by omega) (by omega)
              · refine sf_iinc (L' := [(5, .inl (.int v17)), (4, .inl (.int v15)), (0, .inl (.ref 1)), (1, .inl (.int a_good)), (2, .inl (.int x2))]) sf_c1 rfl rfl (by omega) (fun v46 ev46 => ?_)
                refine sf_can (L' := [(0, .inl (.ref 1)), (1, .inl (.int a_good)), (2, .inl (.int x2)), (3, .inl (.int v46))]) rfl ?_
                exact i_38 w x2 v46 I_w s_w (by omega) (by omega) (by exact sj_OS (n := x3.toInt.toNat) (q := v15.toInt.toNat) f_0 (by omega) (by omega) (Or.inl ⟨sp_ht (by omega), rfl⟩) (Or.inl ⟨by omega, rfl⟩)) (by omega) (by omega) (by omega)
          · refine sf_sw1 sf_c1 (fun h47 => ?_) (fun h47 => ?_)
            · refine sf_iload rfl ?_
              refine sf_aload rfl ?_
              refine sf_getr I_w rfl rfl ?_
              refine sf_iload rfl ?_
              refine sf_iald I_w rfl (by omega) (fun v48 lv48 uv48 ev48 => ?_)
              clear lv48 uv48
              rw [sf_ma s_w (p := 9) rfl] at ev48
              refine sf_f2_ge (fun h49 => ?_) (fun h49 => ?_)
              · refine sf_iconst sf_c0 (fun z50 ez50 => ?_)
                refine sf_zreturn (by omega) rfl rfl ?_
                refine sf_f1_eq (fun h51 => ?_) (fun h51 => absurd h51 (by omega))
                refine sf_aload rfl ?_
                refine sf_getr I_w rfl rfl ?_
                refine sf_iload rfl ?_
                refine sf_iconst sf_c0 (fun z52 ez52 => ?_)
                refine sf_zast I_w s_w rfl (by omega) (by omega) rfl rfl (fun w53 Iw53 sw53 kw53 uw53 => ?_)
                have c54 := sf_ma kw53 (p := 12) rfl
                clear kw53
                have gf := uw53
                skip
                refine sf_aload rfl ?_
                refine sf_getr Iw53 rfl rfl ?_
                refine sf_iload rfl ?_
                refine sf_iald Iw53 rfl (by omega) (fun v55 lv55 uv55 ev55 => ?_)
                rw [sf_ma sw53 (p := 7) rfl] at ev55
                refine sf_iconst sf_c2 (fun z56 ez56 => ?_)
                refine sf_f2_eq (fun h57 => ?_) (fun h57 => ?_)
                · refine sf_aload rfl ?_
                  refine sf_getr Iw53 rfl rfl ?_
                  refine sf_iload rfl ?_
                  refine sf_aload rfl ?_
                  refine sf_getr Iw53 rfl rfl ?_
                  refine sf_iload rfl ?_
                  refine sf_iald Iw53 rfl (by omega) (fun v58 lv58 uv58 ev58 => ?_)
                  clear lv58 uv58
                  rw [c54] at ev58
                  refine sf_iload rfl ?_
                  refine sf_mmax rfl rfl rfl (fun v59 ev59 => ?_)
                  refine sf_iast Iw53 sw53 rfl (by omega) (sf_bd _) rfl rfl (fun w60 Iw60 sw60 kw60 uw60 => ?_)
                  have c61 := sf_ma kw60 (p := 11) rfl
                  clear kw60
                  have gs := uw60
                  rw [c54] at gs
                  refine sf_iinc (L' := [(5, .inl (.int v17)), (4, .inl (.int v15)), (0, .inl (.ref 1)), (1, .inl (.int a_good)), (2, .inl (.int x2))]) sf_c1 rfl rfl (by omega) (fun v62 ev62 => ?_)
                  refine sf_can (L' := [(0, .inl (.ref 1)), (1, .inl (.int a_good)), (2, .inl (.int x2)), (3, .inl (.int v62))]) rfl ?_
                  exact i_38 w60 x2 v62 Iw60 sw60 (by omega) (by omega) (by rw [c61]; exact sj_OS (n := x3.toInt.toNat) (q := v15.toInt.toNat) f_0 (by omega) (by omega) (Or.inr ⟨sp_hf (by omega), z52, by omega, gf⟩) (Or.inr ⟨by omega, v59, by omega, gs⟩)) (by omega) (by omega) (by omega)
                · refine sf_iinc (L' := [(5, .inl (.int v17)), (4, .inl (.int v15)), (0, .inl (.ref 1)), (1, .inl (.int a_good)), (2, .inl (.int x2))]) sf_c1 rfl rfl (by omega) (fun v63 ev63 => ?_)
                  refine sf_can (L' := [(0, .inl (.ref 1)), (1, .inl (.int a_good)), (2, .inl (.int x2)), (3, .inl (.int v63))]) rfl ?_
                  exact i_38 w53 x2 v63 Iw53 sw53 (by omega) (by omega) (by rw [c54]; exact sj_OS (n := x3.toInt.toNat) (q := v15.toInt.toNat) f_0 (by omega) (by omega) (Or.inr ⟨sp_hf (by omega), z52, by omega, gf⟩) (Or.inl ⟨by omega, rfl⟩)) (by omega) (by omega) (by omega)
              · refine sf_iconst sf_c1 (fun z64 ez64 => ?_)
                refine sf_zreturn (by omega) rfl rfl ?_
                refine sf_f1_eq (fun h65 => absurd h65 (by omega)) (fun h65 => ?_)
                refine sf_aload rfl ?_
                refine sf_getr I_w rfl rfl ?_
                refine sf_iload rfl ?_
                refine sf_iald I_w rfl (by omega) (fun v66 lv66 uv66 ev66 => ?_)
                rw [sf_ma s_w (p := 7) rfl] at ev66
                refine sf_iconst sf_c2 (fun z67 ez67 => ?_)
                refine sf_f2_eq (fun h68 => ?_) (fun h68 => ?_)
                · refine sf_aload rfl ?_
                  refine sf_getr I_w rfl rfl ?_
                  refine sf_iload rfl ?_
                  refine sf_aload rfl ?_
                  refine sf_getr I_w rfl rfl ?_
                  refine sf_iload rfl ?_
                  refine sf_iald I_w rfl (by omega) (fun v69 lv69 uv69 ev69 => ?_)
                  clear lv69 uv69
                  refine sf_iload rfl ?_
                  refine sf_mmax rfl rfl rfl (fun v70 ev70 => ?_)
                  refine sf_iast I_w s_w rfl (by omega) (sf_bd _) rfl rfl (fun w71 Iw71 sw71 kw71 uw71 => ?_)
                  have c72 := sf_ma kw71 (p := 11) rfl
                  clear kw71
                  have gs := uw71
                  skip
                  refine sf_iinc (L' := [(5, .inl (.int v17)), (4, .inl (.int v15)), (0, .inl (.ref 1)), (1, .inl (.int a_good)), (2, .inl (.int x2))]) sf_c1 rfl rfl (by omega) (fun v73 ev73 => ?_)
                  refine sf_can (L' := [(0, .inl (.ref 1)), (1, .inl (.int a_good)), (2, .inl (.int x2)), (3, .inl (.int v73))]) rfl ?_
                  exact i_38 w71 x2 v73 Iw71 sw71 (by omega) (by omega) (by rw [c72]; exact sj_OS (n := x3.toInt.toNat) (q := v15.toInt.toNat) f_0 (by omega) (by omega) (Or.inl ⟨sp_ht (by omega), rfl⟩) (Or.inr ⟨by omega, v70, by omega, gs⟩)) (by omega) (by omega) (by omega)
                · refine sf_iinc (L' := [(5, .inl (.int v17)), (4, .inl (.int v15)), (0, .inl (.ref 1)), (1, .inl (.int a_good)), (2, .inl (.int x2))]) sf_c1 rfl rfl (by omega) (fun v74 ev74 => ?_)
                  refine sf_can (L' := [(0, .inl (.ref 1)), (1, .inl (.int a_good)), (2, .inl (.int x2)), (3, .inl (.int v74))]) rfl ?_
                  exact i_38 w x2 v74 I_w s_w (by omega) (by omega) (by exact sj_OS (n := x3.toInt.toNat) (q := v15.toInt.toNat) f_0 (by omega) (by omega) (Or.inl ⟨sp_ht (by omega), rfl⟩) (Or.inl ⟨by omega, rfl⟩)) (by omega) (by omega) (by omega)
            · refine sf_sw0 ?_
              refine sf_iload rfl ?_
              refine sf_aload rfl ?_
              refine sf_getr I_w rfl rfl ?_
              refine sf_iload rfl ?_
              refine sf_iald I_w rfl (by omega) (fun v75 lv75 uv75 ev75 => ?_)
              clear lv75 uv75
              rw [sf_ma s_w (p := 9) rfl] at ev75
              refine sf_f2_lt (fun h76 => ?_) (fun h76 => ?_)
              · refine sf_iconst sf_c0 (fun z77 ez77 => ?_)
                refine sf_zreturn (by omega) rfl rfl ?_
                refine sf_f1_eq (fun h78 => ?_) (fun h78 => absurd h78 (by omega))
                refine sf_aload rfl ?_
                refine sf_getr I_w rfl rfl ?_
                refine sf_iload rfl ?_
                refine sf_iconst sf_c0 (fun z79 ez79 => ?_)
                refine sf_zast I_w s_w rfl (by omega) (by omega) rfl rfl (fun w80 Iw80 sw80 kw80 uw80 => ?_)
                have c81 := sf_ma kw80 (p := 12) rfl
                clear kw80
                have gf := uw80
                skip
                refine sf_aload rfl ?_
                refine sf_getr Iw80 rfl rfl ?_
                refine sf_iload rfl ?_
                refine sf_iald Iw80 rfl (by omega) (fun v82 lv82 uv82 ev82 => ?_)
                rw [sf_ma sw80 (p := 7) rfl] at ev82
                refine sf_iconst sf_c2 (fun z83 ez83 => ?_)
                refine sf_f2_eq (fun h84 => ?_) (fun h84 => ?_)
                · refine sf_aload rfl ?_
                  refine sf_getr Iw80 rfl rfl ?_
                  refine sf_iload rfl ?_
                  refine sf_aload rfl ?_
                  refine sf_getr Iw80 rfl rfl ?_
                  refine sf_iload rfl ?_
                  refine sf_iald Iw80 rfl (by omega) (fun v85 lv85 uv85 ev85 => ?_)
                  clear lv85 uv85
                  rw [c81] at ev85
                  refine sf_iload rfl ?_
                  refine sf_mmax rfl rfl rfl (fun v86 ev86 => ?_)
                  refine sf_iast Iw80 sw80 rfl (by omega) (sf_bd _) rfl rfl (fun w87 Iw87 sw87 kw87 uw87 => ?_)
                  have c88 := sf_ma kw87 (p := 11) rfl
                  clear kw87
                  have gs := uw87
                  rw [c81] at gs
                  refine sf_iinc (L' := [(5, .inl (.int v17)), (4, .inl (.int v15)), (0, .inl (.ref 1)), (1, .inl (.int a_good)), (2, .inl (.int x2))]) sf_c1 rfl rfl (by omega) (fun v89 ev89 => ?_)
                  refine sf_can (L' := [(0, .inl (.ref 1)), (1, .inl (.int a_good)), (2, .inl (.int x2)), (3, .inl (.int v89))]) rfl ?_
                  exact i_38 w87 x2 v89 Iw87 sw87 (by omega) (by omega) (by rw [c88]; exact sj_OS (n := x3.toInt.toNat) (q := v15.toInt.toNat) f_0 (by omega) (by omega) (Or.inr ⟨sp_hf (by omega), z79, by omega, gf⟩) (Or.inr ⟨by omega, v86, by omega, gs⟩)) (by omega) (by omega) (by omega)
                · refine sf_iinc (L' := [(5, .inl (.int v17)), (4, .inl (.int v15)), (0, .inl (.ref 1)), (1, .inl (.int a_good)), (2, .inl (.int x2))]) sf_c1 rfl rfl (by omega) (fun v90 ev90 => ?_)
                  refine sf_can (L' := [(0, .inl (.ref 1)), (1, .inl (.int a_good)), (2, .inl (.int x2)), (3, .inl (.int v90))]) rfl ?_
                  exact i_38 w80 x2 v90 Iw80 sw80 (by omega) (by omega) (by rw [c81]; exact sj_OS (n := x3.toInt.toNat) (q := v15.toInt.toNat) f_0 (by omega) (by omega) (Or.inr ⟨sp_hf (by omega), z79, by omega, gf⟩) (Or.inl ⟨by omega, rfl⟩)) (by omega) (by omega) (by omega)
              · refine sf_iload rfl ?_
                refine sf_iload rfl ?_
                refine sf_f2_lt (fun h91 => ?_) (fun h91 => ?_)
                · refine sf_iconst sf_c0 (fun z92 ez92 => ?_)
                  refine sf_zreturn (by omega) rfl rfl ?_
                  refine sf_f1_eq (fun h93 => ?_) (fun h93 => absurd h93 (by omega))
                  refine sf_aload rfl ?_
                  refine sf_getr I_w rfl rfl ?_
                  refine sf_iload rfl ?_
                  refine sf_iconst sf_c0 (fun z94 ez94 => ?_)
                  refine sf_zast I_w s_w rfl (by omega) (by omega) rfl rfl (fun w95 Iw95 sw95 kw95 uw95 => ?_)
                  have c96 := sf_ma kw95 (p := 12) rfl
                  clear kw95
                  have gf := uw95
                  skip
                  refine sf_aload rfl ?_
                  refine sf_getr Iw95 rfl rfl ?_
                  refine sf_iload rfl ?_
                  refine sf_iald Iw95 rfl (by omega) (fun v97 lv97 uv97 ev97 => ?_)
                  rw [sf_ma sw95 (p := 7) rfl] at ev97
                  refine sf_iconst sf_c2 (fun z98 ez98 => ?_)
                  refine sf_f2_eq (fun h99 => ?_) (fun h99 => ?_)
                  · refine sf_aload rfl ?_
                    refine sf_getr Iw95 rfl rfl ?_
                    refine sf_iload rfl ?_
                    refine sf_aload rfl ?_
                    refine sf_getr Iw95 rfl rfl ?_
                    refine sf_iload rfl ?_
                    refine sf_iald Iw95 rfl (by omega) (fun v100 lv100 uv100 ev100 => ?_)
                    clear lv100 uv100
                    rw [c96] at ev100
                    refine sf_iload rfl ?_
                    refine sf_mmax rfl rfl rfl (fun v101 ev101 => ?_)
                    refine sf_iast Iw95 sw95 rfl (by omega) (sf_bd _) rfl rfl (fun w102 Iw102 sw102 kw102 uw102 => ?_)
                    have c103 := sf_ma kw102 (p := 11) rfl
                    clear kw102
                    have gs := uw102
                    rw [c96] at gs
                    refine sf_iinc (L' := [(5, .inl (.int v17)), (4, .inl (.int v15)), (0, .inl (.ref 1)), (1, .inl (.int a_good)), (2, .inl (.int x2))]) sf_c1 rfl rfl (by omega) (fun v104 ev104 => ?_)
                    refine sf_can (L' := [(0, .inl (.ref 1)), (1, .inl (.int a_good)), (2, .inl (.int x2)), (3, .inl (.int v104))]) rfl ?_
                    exact i_38 w102 x2 v104 Iw102 sw102 (by omega) (by omega) (by rw [c103]; exact sj_OS (n := x3.toInt.toNat) (q := v15.toInt.toNat) f_0 (by omega) (by omega) (Or.inr ⟨sp_hf (by omega), z94, by omega, gf⟩) (Or.inr ⟨by omega, v101, by omega, gs⟩)) (by omega) (by omega) (by omega)
                  · refine sf_iinc (L' := [(5, .inl (.int v17)), (4, .inl (.int v15)), (0, .inl (.ref 1)), (1, .inl (.int a_good)), (2, .inl (.int x2))]) sf_c1 rfl rfl (by omega) (fun v105 ev105 => ?_)
                    refine sf_can (L' := [(0, .inl (.ref 1)), (1, .inl (.int a_good)), (2, .inl (.int x2)), (3, .inl (.int v105))]) rfl ?_
                    exact i_38 w95 x2 v105 Iw95 sw95 (by omega) (by omega) (by rw [c96]; exact sj_OS (n := x3.toInt.toNat) (q := v15.toInt.toNat) f_0 (by omega) (by omega) (Or.inr ⟨sp_hf (by omega), z94, by omega, gf⟩) (Or.inl ⟨by omega, rfl⟩)) (by omega) (by omega) (by omega)
                · refine sf_iconst sf_c1 (fun z106 ez106 => ?_)
                  refine sf_zreturn (by omega) rfl rfl ?_
                  refine sf_f1_eq (fun h107 => absurd h107 (by omega)) (fun h107 => ?_)
                  refine sf_aload rfl ?_
                  refine sf_getr I_w rfl rfl ?_
                  refine sf_iload rfl ?_
                  refine sf_iald I_w rfl (by omega) (fun v108 lv108 uv108 ev108 => ?_)
                  rw [sf_ma s_w (p := 7) rfl] at ev108
                  refine sf_iconst sf_c2 (fun z109 ez109 => ?_)
                  refine sf_f2_eq (fun h110 => ?_) (fun h110 => ?_)
                  · refine sf_aload rfl ?_
                    refine sf_getr I_w rfl rfl ?_
                    refine sf_iload rfl ?_
                    refine sf_aload rfl ?_
                    refine sf_getr I_w rfl rfl ?_
                    refine sf_iload rfl ?_
                    refine sf_iald I_w rfl (by omega) (fun v111 lv111 uv111 ev111 => ?_)
                    clear lv111 uv111
                    refine sf_iload rfl ?_
                    refine sf_mmax rfl rfl rfl (fun v112 ev112 => ?_)
                    refine sf_iast I_w s_w rfl (by omega) (sf_bd _) rfl rfl (fun w113 Iw113 sw113 kw113 uw113 => ?_)
                    have c114 := sf_ma kw113 (p := 11) rfl
                    clear kw113
                    have gs := uw113
                    skip
                    refine sf_iinc (L' := [(5, .inl (.int v17)), (4, .inl (.int v15)), (0, .inl (.ref 1)), (1, .inl (.int a_good)), (2, .inl (.int x2))]) sf_c1 rfl rfl (by omega) (fun v115 ev115 => ?_)
                    refine sf_can (L' := [(0, .inl (.ref 1)), (1, .inl (.int a_good)), (2, .inl (.int x2)), (3, .inl (.int v115))]) rfl ?_
                    exact i_38 w113 x2 v115 Iw113 sw113 (by omega) (by omega) (by rw [c114]; exact sj_OS (n := x3.toInt.toNat) (q := v15.toInt.toNat) f_0 (by omega) (by omega) (Or.inl ⟨sp_ht (by omega), rfl⟩) (Or.inr ⟨by omega, v112, by omega, gs⟩)) (by omega) (by omega) (by omega)
                  · refine sf_iinc (L' := [(5, .inl (.int v17)), (4, .inl (.int v15)), (0, .inl (.ref 1)), (1, .inl (.int a_good)), (2, .inl (.int x2))]) sf_c1 rfl rfl (by omega) (fun v116 ev116 => ?_)
                    refine sf_can (L' := [(0, .inl (.ref 1)), (1, .inl (.int a_good)), (2, .inl (.int x2)), (3, .inl (.int v116))]) rfl ?_
                    exact i_38 w x2 v116 I_w s_w (by omega) (by omega) (by exact sj_OS (n := x3.toInt.toNat) (q := v15.toInt.toNat) f_0 (by omega) (by omega) (Or.inl ⟨sp_ht (by omega), rfl⟩) (Or.inl ⟨by omega, rfl⟩)) (by omega) (by omega) (by omega)
  have hl1 := hl 1000000000000
  obtain ⟨i_2, i_38⟩ := hl1
  clear hl
  refine sf_sp (L := [(0, .inl (.ref 1)), (1, .inl (.int a_good))]) rfl rfl ?_
  generalize ku_T_judgeByOwnNotes rt xt 1000000000000 = K at i_2 i_38 ⊢
  refine sf_iconst sf_c0 (fun z117 ez117 => ?_)
  refine sf_istore (L' := [(0, .inl (.ref 1)), (1, .inl (.int a_good))]) rfl ?_
  refine sf_can (L' := [(0, .inl (.ref 1)), (1, .inl (.int a_good)), (2, .inl (.int z117))]) rfl ?_
  exact i_2 w0 z117 hI0 hs0 (by omega) (by omega) (by exact fun h hh => absurd hh (by omega)) (by omega) (by omega)
def sm_T_classOf : List Nat := [11, 12]
set_option maxRecDepth 100000 in
set_option maxHeartbeats 4000000 in
theorem sc_T_classOf {w0 : wq_W} (hI0 : sf_I w0) {rt : Option wq_V → wq_W → Prop} {xt : Nat → wq_W → Prop} {a_good : Int32} (p0 : 0 ≤ a_good.toInt) (p1 : a_good.toInt ≤ 15) (hR : ∀ (r : Int32) (w : wq_W), sf_I w → sf_m sm_T_classOf w0 w → (-1) ≤ r.toInt → r.toInt ≤ 23 → rt (some (.inl (.int r))) w) : ks_T_classOf [.inl (.ref 1), .inl (.int a_good)] w0 rt xt := by
  have hs0 : sf_m sm_T_classOf w0 w0 := sf_m0
  have hl : ∀ n : Nat, (∀ (w : wq_W) (x2 : Int32) (x3 : Int32), (sf_I w) → (sf_m sm_T_classOf w0 w) → ((-1) ≤ x2.toInt) → (x2.toInt ≤ 23) → (0 ≤ x3.toInt) → (x3.toInt ≤ 24) → (24 - x3.toInt < (n : Int)) → ku_T_classOf rt xt n 9 [(0, .inl (.ref 1)), (2, .inl (.int x2)), (3, .inl (.int x3))] [] w 0 0) := by
    intro n
    induction n with
    | zero =>
      refine ?_
      · intros; omega
    | succ n ih =>
      have i_9 := ih
      intro w x2 x3 I_w s_w l_x2 u_x2 l_x3 u_x3 hm
      show kh_T_classOf_9 rt xt (ku_T_classOf rt xt n) [(0, .inl (.ref 1)), (2, .inl (.int x2)), (3, .inl (.int x3))] [] w 0 0
      generalize ku_T_classOf rt xt n = K at i_9 ⊢
      refine sf_iload rfl ?_
      refine sf_aload rfl ?_
      refine sf_geti I_w rfl rfl (fun v1 lv1 uv1 ev1 => ?_)
      rw [sf_mf s_w (p := 1) (j := 0) rfl] at ev1
      refine sf_f2_ge (fun h2 => ?_) (fun h2 => ?_)
      · refine sf_iload rfl ?_
        refine sf_ireturn rfl rfl ?_
        exact hR _ _ I_w s_w (by omega) (by omega) 
      · refine sf_aload rfl ?_
        refine sf_iload rfl ?_
        refine sf_call2 rfl rfl rfl ?_
        refine sf_rv I_w rfl ?_
        refine sf_sp (L := [(0, .inl (.ref 1)), (1, .inl (.int x3))]) rfl rfl ?_
        refine sf_aload rfl ?_
        refine sf_getr I_w rfl rfl ?_
        refine sf_iload rfl ?_
        refine sf_iald I_w rfl (by omega) (fun v3 lv3 uv3 ev3 => ?_)
        clear ev3
        refine sf_istore (L' := [(0, .inl (.ref 1)), (1, .inl (.int x3))]) rfl ?_
        refine sf_iload rfl ?_
        refine sf_iconst sf_cm1 (fun z4 ez4 => ?_)
        refine sf_f2_eq (fun h5 => ?_) (fun h5 => ?_)
        · refine sf_vreturn rfl rfl ?_
          refine sf_aload rfl ?_
          refine sf_getr I_w rfl rfl ?_
          refine sf_iload rfl ?_
          refine sf_zald I_w rfl (by omega) (fun v6 lv6 uv6 ev6 => ?_)
          clear ev6
          refine sf_f1_eq (fun h7 => ?_) (fun h7 => ?_)
          · refine sf_iinc (L' := [(0, .inl (.ref 1)), (2, .inl (.int x2))]) sf_c1 rfl rfl (by omega) (fun v8 ev8 => ?_)
            refine sf_can (L' := [(0, .inl (.ref 1)), (2, .inl (.int x2)), (3, .inl (.int v8))]) rfl ?_
            exact i_9 w x2 v8 I_w s_w (by omega) (by omega) (by omega) (by omega) (by omega)
          · refine sf_iload rfl ?_
            refine sf_iconst sf_cm1 (fun z9 ez9 => ?_)
            refine sf_f2_eq (fun h10 => ?_) (fun h10 => ?_)
            · refine sf_iload rfl ?_
              refine sf_istore (L' := [(0, .inl (.ref 1)), (3, .inl (.int x3))]) rfl ?_
              refine sf_iinc (L' := [(2, .inl (.int x3)), (0, .inl (.ref 1))]) sf_c1 rfl rfl (by omega) (fun v11 ev11 => ?_)
              refine sf_can (L' := [(0, .inl (.ref 1)), (2, .inl (.int x3)), (3, .inl (.int v11))]) rfl ?_
              exact i_9 w x3 v11 I_w s_w (by omega) (by omega) (by omega) (by omega) (by omega)
            · refine sf_aload rfl ?_
              refine sf_iload rfl ?_
              refine sf_iload rfl ?_
              refine sf_call3 rfl rfl rfl ?_
              refine sf_rv I_w rfl ?_
              refine sf_sp (L := [(0, .inl (.ref 1)), (1, .inl (.int x3)), (2, .inl (.int x2))]) rfl rfl ?_
              refine sf_aload rfl ?_
              refine sf_getr I_w rfl rfl ?_
              refine sf_iload rfl ?_
              refine sf_iald I_w rfl (by omega) (fun v12 lv12 uv12 ev12 => ?_)
              clear ev12
              refine sf_aload rfl ?_
              refine sf_getr I_w rfl rfl ?_
              refine sf_iload rfl ?_
              refine sf_iald I_w rfl (by omega) (fun v13 lv13 uv13 ev13 => ?_)
              clear ev13
              refine sf_f2_eq (fun h14 => ?_) (fun h14 => ?_)
              · refine sf_aload rfl ?_
                refine sf_getr I_w rfl rfl ?_
                refine sf_iload rfl ?_
                refine sf_iald I_w rfl (by omega) (fun v15 lv15 uv15 ev15 => ?_)
                clear lv15 uv15
                clear ev15
                refine sf_aload rfl ?_
                refine sf_getr I_w rfl rfl ?_
                refine sf_iload rfl ?_
                refine sf_iald I_w rfl (by omega) (fun v16 lv16 uv16 ev16 => ?_)
                clear lv16 uv16
                clear ev16
                refine sf_f2_lt (fun h17 => ?_) (fun h17 => ?_)
                · refine sf_iconst sf_c0 (fun z18 ez18 => ?_)
                  refine sf_zreturn (by omega) rfl rfl ?_
                  refine sf_f1_eq (fun h19 => ?_) (fun h19 => absurd h19 (by omega))
                  refine sf_iinc (L' := [(0, .inl (.ref 1)), (2, .inl (.int x2))]) sf_c1 rfl rfl (by omega) (fun v20 ev20 => ?_)
                  refine sf_can (L' := [(0, .inl (.ref 1)), (2, .inl (.int x2)), (3, .inl (.int v20))]) rfl ?_
                  exact i_9 w x2 v20 I_w s_w (by omega) (by omega) (by omega) (by omega) (by omega)
                · refine sf_iconst sf_c1 (fun z21 ez21 => ?_)
                  refine sf_zreturn (by omega) rfl rfl ?_
                  refine sf_f1_eq (fun h22 => absurd h22 (by omega)) (fun h22 => ?_)
                  refine sf_iload rfl ?_
                  refine sf_istore (L' := [(0, .inl (.ref 1)), (3, .inl (.int x3))]) rfl ?_
                  refine sf_iinc (L' := [(2, .inl (.int x3)), (0, .inl (.ref 1))]) sf_c1 rfl rfl (by omega) (fun v23 ev23 => ?_)
                  refine sf_can (L' := [(0, .inl (.ref 1)), (2, .inl (.int x3)), (3, .inl (.int v23))]) rfl ?_
                  exact i_9 w x3 v23 I_w s_w (by omega) (by omega) (by omega) (by omega) (by omega)
              · refine sf_aload rfl ?_
                refine sf_getr I_w rfl rfl ?_
                refine sf_iload rfl ?_
                refine sf_iald I_w rfl (by omega) (fun v24 lv24 uv24 ev24 => ?_)
                clear ev24
                refine sf_aload rfl ?_
                refine sf_getr I_w rfl rfl ?_
                refine sf_iload rfl ?_
                refine sf_iald I_w rfl (by omega) (fun v25 lv25 uv25 ev25 => ?_)
                clear ev25
                refine sf_f2_le (fun h26 => ?_) (fun h26 => ?_)
                · refine sf_iconst sf_c0 (fun z27 ez27 => ?_)
                  refine sf_zreturn (by omega) rfl rfl ?_
                  refine sf_f1_eq (fun h28 => ?_) (fun h28 => absurd h28 (by omega))
                  refine sf_iinc (L' := [(0, .inl (.ref 1)), (2, .inl (.int x2))]) sf_c1 rfl rfl (by omega) (fun v29 ev29 => ?_)
                  refine sf_can (L' := [(0, .inl (.ref 1)), (2, .inl (.int x2)), (3, .inl (.int v29))]) rfl ?_
                  exact i_9 w x2 v29 I_w s_w (by omega) (by omega) (by omega) (by omega) (by omega)
                · refine sf_iconst sf_c1 (fun z30 ez30 => ?_)
                  refine sf_zreturn (by omega) rfl rfl ?_
                  refine sf_f1_eq (fun h31 => absurd h31 (by omega)) (fun h31 => ?_)
                  refine sf_iload rfl ?_
                  refine sf_istore (L' := [(0, .inl (.ref 1)), (3, .inl (.int x3))]) rfl ?_
                  refine sf_iinc (L' := [(2, .inl (.int x3)), (0, .inl (.ref 1))]) sf_c1 rfl rfl (by omega) (fun v32 ev32 => ?_)
                  refine sf_can (L' := [(0, .inl (.ref 1)), (2, .inl (.int x3)), (3, .inl (.int v32))]) rfl ?_
                  exact i_9 w x3 v32 I_w s_w (by omega) (by omega) (by omega) (by omega) (by omega)
        · refine sf_aload rfl ?_
          refine sf_getr I_w rfl rfl ?_
          refine sf_iload rfl ?_
          refine sf_aload rfl ?_
          refine sf_getr I_w rfl rfl ?_
          refine sf_iload rfl ?_
          refine sf_zald I_w rfl (by omega) (fun v33 lv33 uv33 ev33 => ?_)
          clear ev33
          refine sf_f1_eq (fun h34 => ?_) (fun h34 => ?_)
          · refine sf_iconst sf_c0 (fun z35 ez35 => ?_)
            refine sf_zast I_w s_w rfl (by omega) (by omega) rfl rfl (fun w36 Iw36 sw36 kw36 uw36 => ?_)
            clear kw36 uw36
            refine sf_aload rfl ?_
            refine sf_getr Iw36 rfl rfl ?_
            refine sf_iload rfl ?_
            refine sf_aload rfl ?_
            refine sf_getr Iw36 rfl rfl ?_
            refine sf_iload rfl ?_
            refine sf_iald Iw36 rfl (by omega) (fun v37 lv37 uv37 ev37 => ?_)
            clear lv37 uv37
            clear ev37
            refine sf_aload rfl ?_
            refine sf_getr Iw36 rfl rfl ?_
            refine sf_iload rfl ?_
            refine sf_iald Iw36 rfl (by omega) (fun v38 lv38 uv38 ev38 => ?_)
            clear lv38 uv38
            clear ev38
            refine sf_m2 rfl rfl rfl (fun v39 => ?_)
            refine sf_iast Iw36 sw36 rfl (by omega) (sf_bd _) rfl rfl (fun w40 Iw40 sw40 kw40 uw40 => ?_)
            clear kw40 uw40
            refine sf_vreturn rfl rfl ?_
            refine sf_aload rfl ?_
            refine sf_getr Iw40 rfl rfl ?_
            refine sf_iload rfl ?_
            refine sf_zald Iw40 rfl (by omega) (fun v41 lv41 uv41 ev41 => ?_)
            clear ev41
            refine sf_f1_eq (fun h42 => ?_) (fun h42 => ?_)
            · refine sf_iinc (L' := [(0, .inl (.ref 1)), (2, .inl (.int x2))]) sf_c1 rfl rfl (by omega) (fun v43 ev43 => ?_)
              refine sf_can (L' := [(0, .inl (.ref 1)), (2, .inl (.int x2)), (3, .inl (.int v43))]) rfl ?_
              exact i_9 w40 x2 v43 Iw40 sw40 (by omega) (by omega) (by omega) (by omega) (by omega)
            · refine sf_iload rfl ?_
              refine sf_iconst sf_cm1 (fun z44 ez44 => ?_)
              refine sf_f2_eq (fun h45 => ?_) (fun h45 => ?_)
              · refine sf_iload rfl ?_
                refine sf_istore (L' := [(0, .inl (.ref 1)), (3, .inl (.int x3))]) rfl ?_
                refine sf_iinc (L' := [(2, .inl (.int x3)), (0, .inl (.ref 1))]) sf_c1 rfl rfl (by omega) (fun v46 ev46 => ?_)
                refine sf_can (L' := [(0, .inl (.ref 1)), (2, .inl (.int x3)), (3, .inl (.int v46))]) rfl ?_
                exact i_9 w40 x3 v46 Iw40 sw40 (by omega) (by omega) (by omega) (by omega) (by omega)
              · refine sf_aload rfl ?_
                refine sf_iload rfl ?_
                refine sf_iload rfl ?_
                refine sf_call3 rfl rfl rfl ?_
                refine sf_rv Iw40 rfl ?_
                refine sf_sp (L := [(0, .inl (.ref 1)), (1, .inl (.int x3)), (2, .inl (.int x2))]) rfl rfl ?_
                refine sf_aload rfl ?_
                refine sf_getr Iw40 rfl rfl ?_
                refine sf_iload rfl ?_
                refine sf_iald Iw40 rfl (by omega) (fun v47 lv47 uv47 ev47 => ?_)
                clear ev47
                refine sf_aload rfl ?_
                refine sf_getr Iw40 rfl rfl ?_
                refine sf_iload rfl ?_
                refine sf_iald Iw40 rfl (by omega) (fun v48 lv48 uv48 ev48 => ?_)
                clear ev48
                refine sf_f2_eq (fun h49 => ?_) (fun h49 => ?_)
                · refine sf_aload rfl ?_
                  refine sf_getr Iw40 rfl rfl ?_
                  refine sf_iload rfl ?_
                  refine sf_iald Iw40 rfl (by omega) (fun v50 lv50 uv50 ev50 => ?_)
                  clear lv50 uv50
                  clear ev50
                  refine sf_aload rfl ?_
                  refine sf_getr Iw40 rfl rfl ?_
                  refine sf_iload rfl ?_
                  refine sf_iald Iw40 rfl (by omega) (fun v51 lv51 uv51 ev51 => ?_)
                  clear lv51 uv51
                  clear ev51
                  refine sf_f2_lt (fun h52 => ?_) (fun h52 => ?_)
                  · refine sf_iconst sf_c0 (fun z53 ez53 => ?_)
                    refine sf_zreturn (by omega) rfl rfl ?_
                    refine sf_f1_eq (fun h54 => ?_) (fun h54 => absurd h54 (by omega))
                    refine sf_iinc (L' := [(0, .inl (.ref 1)), (2, .inl (.int x2))]) sf_c1 rfl rfl (by omega) (fun v55 ev55 => ?_)
                    refine sf_can (L' := [(0, .inl (.ref 1)), (2, .inl (.int x2)), (3, .inl (.int v55))]) rfl ?_
                    exact i_9 w40 x2 v55 Iw40 sw40 (by omega) (by omega) (by omega) (by omega) (by omega)
                  · refine sf_iconst sf_c1 (fun z56 ez56 => ?_)
                    refine sf_zreturn (by omega) rfl rfl ?_
                    refine sf_f1_eq (fun h57 => absurd h57 (by omega)) (fun h57 => ?_)
                    refine sf_iload rfl ?_
                    refine sf_istore (L' := [(0, .inl (.ref 1)), (3, .inl (.int x3))]) rfl ?_
                    refine sf_iinc (L' := [(2, .inl (.int x3)), (0, .inl (.ref 1))]) sf_c1 rfl rfl (by omega) (fun v58 ev58 => ?_)
                    refine sf_can (L' := [(0, .inl (.ref 1)), (2, .inl (.int x3)), (3, .inl (.int v58))]) rfl ?_
                    exact i_9 w40 x3 v58 Iw40 sw40 (by omega) (by omega) (by omega) (by omega) (by omega)
                · refine sf_aload rfl ?_
                  refine sf_getr Iw40 rfl rfl ?_
                  refine sf_iload rfl ?_
                  refine sf_iald Iw40 rfl (by omega) (fun v59 lv59 uv59 ev59 => ?_)
                  clear ev59
                  refine sf_aload rfl ?_
                  refine sf_getr Iw40 rfl rfl ?_
                  refine sf_iload rfl ?_
                  refine sf_iald Iw40 rfl (by omega) (fun v60 lv60 uv60 ev60 => ?_)
                  clear ev60
                  refine sf_f2_le (fun h61 => ?_) (fun h61 => ?_)
                  · refine sf_iconst sf_c0 (fun z62 ez62 => ?_)
                    refine sf_zreturn (by omega) rfl rfl ?_
                    refine sf_f1_eq (fun h63 => ?_) (fun h63 => absurd h63 (by omega))
                    refine sf_iinc (L' := [(0, .inl (.ref 1)), (2, .inl (.int x2))]) sf_c1 rfl rfl (by omega) (fun v64 ev64 => ?_)
                    refine sf_can (L' := [(0, .inl (.ref 1)), (2, .inl (.int x2)), (3, .inl (.int v64))]) rfl ?_
                    exact i_9 w40 x2 v64 Iw40 sw40 (by omega) (by omega) (by omega) (by omega) (by omega)
                  · refine sf_iconst sf_c1 (fun z65 ez65 => ?_)
                    refine sf_zreturn (by omega) rfl rfl ?_
                    refine sf_f1_eq (fun h66 => absurd h66 (by omega)) (fun h66 => ?_)
                    refine sf_iload rfl ?_
                    refine sf_istore (L' := [(0, .inl (.ref 1)), (3, .inl (.int x3))]) rfl ?_
                    refine sf_iinc (L' := [(2, .inl (.int x3)), (0, .inl (.ref 1))]) sf_c1 rfl rfl (by omega) (fun v67 ev67 => ?_)
                    refine sf_can (L' := [(0, .inl (.ref 1)), (2, .inl (.int x3)), (3, .inl (.int v67))]) rfl ?_
                    exact i_9 w40 x3 v67 Iw40 sw40 (by omega) (by omega) (by omega) (by omega) (by omega)
          · refine sf_aload rfl ?_
            refine sf_getr I_w rfl rfl ?_
            refine sf_iload rfl ?_
            refine sf_zald I_w rfl (by omega) (fun v68 lv68 uv68 ev68 => ?_)
            clear ev68
            refine sf_f1_eq (fun h69 => ?_) (fun h69 => ?_)
            · refine sf_iconst sf_c0 (fun z70 ez70 => ?_)
              refine sf_zast I_w s_w rfl (by omega) (by omega) rfl rfl (fun w71 Iw71 sw71 kw71 uw71 => ?_)
              clear kw71 uw71
              refine sf_aload rfl ?_
              refine sf_getr Iw71 rfl rfl ?_
              refine sf_iload rfl ?_
              refine sf_aload rfl ?_
              refine sf_getr Iw71 rfl rfl ?_
              refine sf_iload rfl ?_
              refine sf_iald Iw71 rfl (by omega) (fun v72 lv72 uv72 ev72 => ?_)
              clear lv72 uv72
              clear ev72
              refine sf_aload rfl ?_
              refine sf_getr Iw71 rfl rfl ?_
              refine sf_iload rfl ?_
              refine sf_iald Iw71 rfl (by omega) (fun v73 lv73 uv73 ev73 => ?_)
              clear lv73 uv73
              clear ev73
              refine sf_m2 rfl rfl rfl (fun v74 => ?_)
              refine sf_iast Iw71 sw71 rfl (by omega) (sf_bd _) rfl rfl (fun w75 Iw75 sw75 kw75 uw75 => ?_)
              clear kw75 uw75
              refine sf_vreturn rfl rfl ?_
              refine sf_aload rfl ?_
              refine sf_getr Iw75 rfl rfl ?_
              refine sf_iload rfl ?_
              refine sf_zald Iw75 rfl (by omega) (fun v76 lv76 uv76 ev76 => ?_)
              clear ev76
              refine sf_f1_eq (fun h77 => ?_) (fun h77 => ?_)
              · refine sf_iinc (L' := [(0, .inl (.ref 1)), (2, .inl (.int x2))]) sf_c1 rfl rfl (by omega) (fun v78 ev78 => ?_)
                refine sf_can (L' := [(0, .inl (.ref 1)), (2, .inl (.int x2)), (3, .inl (.int v78))]) rfl ?_
                exact i_9 w75 x2 v78 Iw75 sw75 (by omega) (by omega) (by omega) (by omega) (by omega)
              · refine sf_iload rfl ?_
                refine sf_iconst sf_cm1 (fun z79 ez79 => ?_)
                refine sf_f2_eq (fun h80 => ?_) (fun h80 => ?_)
                · refine sf_iload rfl ?_
                  refine sf_istore (L' := [(0, .inl (.ref 1)), (3, .inl (.int x3))]) rfl ?_
                  refine sf_iinc (L' := [(2, .inl (.int x3)), (0, .inl (.ref 1))]) sf_c1 rfl rfl (by omega) (fun v81 ev81 => ?_)
                  refine sf_can (L' := [(0, .inl (.ref 1)), (2, .inl (.int x3)), (3, .inl (.int v81))]) rfl ?_
                  exact i_9 w75 x3 v81 Iw75 sw75 (by omega) (by omega) (by omega) (by omega) (by omega)
                · refine sf_aload rfl ?_
                  refine sf_iload rfl ?_
                  refine sf_iload rfl ?_
                  refine sf_call3 rfl rfl rfl ?_
                  refine sf_rv Iw75 rfl ?_
                  refine sf_sp (L := [(0, .inl (.ref 1)), (1, .inl (.int x3)), (2, .inl (.int x2))]) rfl rfl ?_
                  refine sf_aload rfl ?_
                  refine sf_getr Iw75 rfl rfl ?_
                  refine sf_iload rfl ?_
                  refine sf_iald Iw75 rfl (by omega) (fun v82 lv82 uv82 ev82 => ?_)
                  clear ev82
                  refine sf_aload rfl ?_
                  refine sf_getr Iw75 rfl rfl ?_
                  refine sf_iload rfl ?_
                  refine sf_iald Iw75 rfl (by omega) (fun v83 lv83 uv83 ev83 => ?_)
                  clear ev83
                  refine sf_f2_eq (fun h84 => ?_) (fun h84 => ?_)
                  · refine sf_aload rfl ?_
                    refine sf_getr Iw75 rfl rfl ?_
                    refine sf_iload rfl ?_
                    refine sf_iald Iw75 rfl (by omega) (fun v85 lv85 uv85 ev85 => ?_)
                    clear lv85 uv85
                    clear ev85
                    refine sf_aload rfl ?_
                    refine sf_getr Iw75 rfl rfl ?_
                    refine sf_iload rfl ?_
                    refine sf_iald Iw75 rfl (by omega) (fun v86 lv86 uv86 ev86 => ?_)
                    clear lv86 uv86
                    clear ev86
                    refine sf_f2_lt (fun h87 => ?_) (fun h87 => ?_)
                    · refine sf_iconst sf_c0 (fun z88 ez88 => ?_)
                      refine sf_zreturn (by omega) rfl rfl ?_
                      refine sf_f1_eq (fun h89 => ?_) (fun h89 => absurd h89 (by omega))
                      refine sf_iinc (L' := [(0, .inl (.ref 1)), (2, .inl (.int x2))]) sf_c1 rfl rfl (by omega) (fun v90 ev90 => ?_)
                      refine sf_can (L' := [(0, .inl (.ref 1)), (2, .inl (.int x2)), (3, .inl (.int v90))]) rfl ?_
                      exact i_9 w75 x2 v90 Iw75 sw75 (by omega) (by omega) (by omega) (by omega) (by omega)
                    · refine sf_iconst sf_c1 (fun z91 ez91 => ?_)
                      refine sf_zreturn (by omega) rfl rfl ?_
                      refine sf_f1_eq (fun h92 => absurd h92 (by omega)) (fun h92 => ?_)
                      refine sf_iload rfl ?_
                      refine sf_istore (L' := [(0, .inl (.ref 1)), (3, .inl (.int x3))]) rfl ?_
                      refine sf_iinc (L' := [(2, .inl (.int x3)), (0, .inl (.ref 1))]) sf_c1 rfl rfl (by omega) (fun v93 ev93 => ?_)
                      refine sf_can (L' := [(0, .inl (.ref 1)), (2, .inl (.int x3)), (3, .inl (.int v93))]) rfl ?_
                      exact i_9 w75 x3 v93 Iw75 sw75 (by omega) (by omega) (by omega) (by omega) (by omega)
                  · refine sf_aload rfl ?_
                    refine sf_getr Iw75 rfl rfl ?_
                    refine sf_iload rfl ?_
                    refine sf_iald Iw75 rfl (by omega) (fun v94 lv94 uv94 ev94 => ?_)
                    clear ev94
                    refine sf_aload rfl ?_
                    refine sf_getr Iw75 rfl rfl ?_
                    refine sf_iload rfl ?_
                    refine sf_iald Iw75 rfl (by omega) (fun v95 lv95 uv95 ev95 => ?_)
                    clear ev95
                    refine sf_f2_le (fun h96 => ?_) (fun h96 => ?_)
                    · refine sf_iconst sf_c0 (fun z97 ez97 => ?_)
                      refine sf_zreturn (by omega) rfl rfl ?_
                      refine sf_f1_eq (fun h98 => ?_) (fun h98 => absurd h98 (by omega))
                      refine sf_iinc (L' := [(0, .inl (.ref 1)), (2, .inl (.int x2))]) sf_c1 rfl rfl (by omega) (fun v99 ev99 => ?_)
                      refine sf_can (L' := [(0, .inl (.ref 1)), (2, .inl (.int x2)), (3, .inl (.int v99))]) rfl ?_
                      exact i_9 w75 x2 v99 Iw75 sw75 (by omega) (by omega) (by omega) (by omega) (by omega)
                    · refine sf_iconst sf_c1 (fun z100 ez100 => ?_)
                      refine sf_zreturn (by omega) rfl rfl ?_
                      refine sf_f1_eq (fun h101 => absurd h101 (by omega)) (fun h101 => ?_)
                      refine sf_iload rfl ?_
                      refine sf_istore (L' := [(0, .inl (.ref 1)), (3, .inl (.int x3))]) rfl ?_
                      refine sf_iinc (L' := [(2, .inl (.int x3)), (0, .inl (.ref 1))]) sf_c1 rfl rfl (by omega) (fun v102 ev102 => ?_)
                      refine sf_can (L' := [(0, .inl (.ref 1)), (2, .inl (.int x3)), (3, .inl (.int v102))]) rfl ?_
                      exact i_9 w75 x3 v102 Iw75 sw75 (by omega) (by omega) (by omega) (by omega) (by omega)
            · refine sf_iconst sf_c1 (fun z103 ez103 => ?_)
              refine sf_zast I_w s_w rfl (by omega) (by omega) rfl rfl (fun w104 Iw104 sw104 kw104 uw104 => ?_)
              clear kw104 uw104
              refine sf_aload rfl ?_
              refine sf_getr Iw104 rfl rfl ?_
              refine sf_iload rfl ?_
              refine sf_aload rfl ?_
              refine sf_getr Iw104 rfl rfl ?_
              refine sf_iload rfl ?_
              refine sf_iald Iw104 rfl (by omega) (fun v105 lv105 uv105 ev105 => ?_)
              clear lv105 uv105
              clear ev105
              refine sf_aload rfl ?_
              refine sf_getr Iw104 rfl rfl ?_
              refine sf_iload rfl ?_
              refine sf_iald Iw104 rfl (by omega) (fun v106 lv106 uv106 ev106 => ?_)
              clear lv106 uv106
              clear ev106
              refine sf_m2 rfl rfl rfl (fun v107 => ?_)
              refine sf_iast Iw104 sw104 rfl (by omega) (sf_bd _) rfl rfl (fun w108 Iw108 sw108 kw108 uw108 => ?_)
              clear kw108 uw108
              refine sf_vreturn rfl rfl ?_
              refine sf_aload rfl ?_
              refine sf_getr Iw108 rfl rfl ?_
              refine sf_iload rfl ?_
              refine sf_zald Iw108 rfl (by omega) (fun v109 lv109 uv109 ev109 => ?_)
              clear ev109
              refine sf_f1_eq (fun h110 => ?_) (fun h110 => ?_)
              · refine sf_iinc (L' := [(0, .inl (.ref 1)), (2, .inl (.int x2))]) sf_c1 rfl rfl (by omega) (fun v111 ev111 => ?_)
                refine sf_can (L' := [(0, .inl (.ref 1)), (2, .inl (.int x2)), (3, .inl (.int v111))]) rfl ?_
                exact i_9 w108 x2 v111 Iw108 sw108 (by omega) (by omega) (by omega) (by omega) (by omega)
              · refine sf_iload rfl ?_
                refine sf_iconst sf_cm1 (fun z112 ez112 => ?_)
                refine sf_f2_eq (fun h113 => ?_) (fun h113 => ?_)
                · refine sf_iload rfl ?_
                  refine sf_istore (L' := [(0, .inl (.ref 1)), (3, .inl (.int x3))]) rfl ?_
                  refine sf_iinc (L' := [(2, .inl (.int x3)), (0, .inl (.ref 1))]) sf_c1 rfl rfl (by omega) (fun v114 ev114 => ?_)
                  refine sf_can (L' := [(0, .inl (.ref 1)), (2, .inl (.int x3)), (3, .inl (.int v114))]) rfl ?_
                  exact i_9 w108 x3 v114 Iw108 sw108 (by omega) (by omega) (by omega) (by omega) (by omega)
                · refine sf_aload rfl ?_
                  refine sf_iload rfl ?_
                  refine sf_iload rfl ?_
                  refine sf_call3 rfl rfl rfl ?_
                  refine sf_rv Iw108 rfl ?_
                  refine sf_sp (L := [(0, .inl (.ref 1)), (1, .inl (.int x3)), (2, .inl (.int x2))]) rfl rfl ?_
                  refine sf_aload rfl ?_
                  refine sf_getr Iw108 rfl rfl ?_
                  refine sf_iload rfl ?_
                  refine sf_iald Iw108 rfl (by omega) (fun v115 lv115 uv115 ev115 => ?_)
                  clear ev115
                  refine sf_aload rfl ?_
                  refine sf_getr Iw108 rfl rfl ?_
                  refine sf_iload rfl ?_
                  refine sf_iald Iw108 rfl (by omega) (fun v116 lv116 uv116 ev116 => ?_)
                  clear ev116
                  refine sf_f2_eq (fun h117 => ?_) (fun h117 => ?_)
                  · refine sf_aload rfl ?_
                    refine sf_getr Iw108 rfl rfl ?_
                    refine sf_iload rfl ?_
                    refine sf_iald Iw108 rfl (by omega) (fun v118 lv118 uv118 ev118 => ?_)
                    clear lv118 uv118
                    clear ev118
                    refine sf_aload rfl ?_
                    refine sf_getr Iw108 rfl rfl ?_
                    refine sf_iload rfl ?_
                    refine sf_iald Iw108 rfl (by omega) (fun v119 lv119 uv119 ev119 => ?_)
                    clear lv119 uv119
                    clear ev119
                    refine sf_f2_lt (fun h120 => ?_) (fun h120 => ?_)
                    · refine sf_iconst sf_c0 (fun z121 ez121 => ?_)
                      refine sf_zreturn (by omega) rfl rfl ?_
                      refine sf_f1_eq (fun h122 => ?_) (fun h122 => absurd h122 (by omega))
                      refine sf_iinc (L' := [(0, .inl (.ref 1)), (2, .inl (.int x2))]) sf_c1 rfl rfl (by omega) (fun v123 ev123 => ?_)
                      refine sf_can (L' := [(0, .inl (.ref 1)), (2, .inl (.int x2)), (3, .inl (.int v123))]) rfl ?_
                      exact i_9 w108 x2 v123 Iw108 sw108 (by omega) (by omega) (by omega) (by omega) (by omega)
                    · refine sf_iconst sf_c1 (fun z124 ez124 => ?_)
                      refine sf_zreturn (by omega) rfl rfl ?_
                      refine sf_f1_eq (fun h125 => absurd h125 (by omega)) (fun h125 => ?_)
                      refine sf_iload rfl ?_
                      refine sf_istore (L' := [(0, .inl (.ref 1)), (3, .inl (.int x3))]) rfl ?_
                      refine sf_iinc (L' := [(2, .inl (.int x3)), (0, .inl (.ref 1))]) sf_c1 rfl rfl (by omega) (fun v126 ev126 => ?_)
                      refine sf_can (L' := [(0, .inl (.ref 1)), (2, .inl (.int x3)), (3, .inl (.int v126))]) rfl ?_
                      exact i_9 w108 x3 v126 Iw108 sw108 (by omega) (by omega) (by omega) (by omega) (by omega)
                  · refine sf_aload rfl ?_
                    refine sf_getr Iw108 rfl rfl ?_
                    refine sf_iload rfl ?_
                    refine sf_iald Iw108 rfl (by omega) (fun v127 lv127 uv127 ev127 => ?_)
                    clear ev127
                    refine sf_aload rfl ?_
                    refine sf_getr Iw108 rfl rfl ?_
                    refine sf_iload rfl ?_
                    refine sf_iald Iw108 rfl (by omega) (fun v128 lv128 uv128 ev128 => ?_)
                    clear ev128
                    refine sf_f2_le (fun h129 => ?_) (fun h129 => ?_)
                    · refine sf_iconst sf_c0 (fun z130 ez130 => ?_)
                      refine sf_zreturn (by omega) rfl rfl ?_
                      refine sf_f1_eq (fun h131 => ?_) (fun h131 => absurd h131 (by omega))
                      refine sf_iinc (L' := [(0, .inl (.ref 1)), (2, .inl (.int x2))]) sf_c1 rfl rfl (by omega) (fun v132 ev132 => ?_)
                      refine sf_can (L' := [(0, .inl (.ref 1)), (2, .inl (.int x2)), (3, .inl (.int v132))]) rfl ?_
                      exact i_9 w108 x2 v132 Iw108 sw108 (by omega) (by omega) (by omega) (by omega) (by omega)
                    · refine sf_iconst sf_c1 (fun z133 ez133 => ?_)
                      refine sf_zreturn (by omega) rfl rfl ?_
                      refine sf_f1_eq (fun h134 => absurd h134 (by omega)) (fun h134 => ?_)
                      refine sf_iload rfl ?_
                      refine sf_istore (L' := [(0, .inl (.ref 1)), (3, .inl (.int x3))]) rfl ?_
                      refine sf_iinc (L' := [(2, .inl (.int x3)), (0, .inl (.ref 1))]) sf_c1 rfl rfl (by omega) (fun v135 ev135 => ?_)
                      refine sf_can (L' := [(0, .inl (.ref 1)), (2, .inl (.int x3)), (3, .inl (.int v135))]) rfl ?_
                      exact i_9 w108 x3 v135 Iw108 sw108 (by omega) (by omega) (by omega) (by omega) (by omega)
  have hl1 := hl 1000000000000
  have i_9 := hl1
  clear hl hl1
  refine sf_sp (L := [(0, .inl (.ref 1)), (1, .inl (.int a_good))]) rfl rfl ?_
  generalize ku_T_classOf rt xt 1000000000000 = K at i_9 ⊢
  refine sf_aload rfl ?_
  refine sf_iload rfl ?_
  refine sf_call2 rfl rfl rfl ?_
  refine sf_rv hI0 rfl ?_
  refine sc_T_judgeByOwnNotes hI0 (by omega) (by omega) (fun w136 Iw136 tw136 q137_0 => ?_)
  have s138 := sf_mt hs0 tw136 rfl
  refine sf_iconst sf_cm1 (fun z139 ez139 => ?_)
  refine sf_istore (L' := [(0, .inl (.ref 1)), (1, .inl (.int a_good))]) rfl ?_
  refine sf_iconst sf_c0 (fun z140 ez140 => ?_)
  refine sf_istore (L' := [(2, .inl (.int z139)), (0, .inl (.ref 1)), (1, .inl (.int a_good))]) rfl ?_
  refine sf_can (L' := [(0, .inl (.ref 1)), (2, .inl (.int z139)), (3, .inl (.int z140))]) rfl ?_
  exact i_9 w136 z139 z140 Iw136 s138 (by omega) (by omega) (by omega) (by omega) (by omega)
def sm_T_classOf_K : List Nat := [11, 12]
set_option maxRecDepth 100000 in
set_option maxHeartbeats 4000000 in
theorem sc_T_classOf_K {w0 : wq_W} (hI0 : sf_I w0) {rt : Option wq_V → wq_W → Prop} {xt : Nat → wq_W → Prop} {a_good : Int32} (p0 : 0 ≤ a_good.toInt) (p1 : a_good.toInt ≤ 15) (p2 : sf_J (sf_a w0 3) (sf_a w0 2) (sf_f w0 1 0).toInt) (hR : ∀ (r : Int32) (w : wq_W), sf_I w → sf_m sm_T_classOf_K w0 w → (-1) ≤ r.toInt → r.toInt ≤ 23 → (r.toInt = sj_B (sp_fi (sf_a w0 2) (sf_a w0 6) (sf_a w0 7) (sf_a w0 8) (sf_a w0 9) (sp_ag (sf_g w0 10) a_good.toInt.toNat) (sf_f w0 1 5).toInt.toNat) (sp_d (sf_a w0 3)) (sp_sh (sf_a w0 2) (sf_a w0 6) (sf_a w0 7) (sf_a w0 8) (sp_ag (sf_g w0 10) a_good.toInt.toNat) (sf_f w0 1 5).toInt.toNat) (sf_f w0 1 0).toInt.toNat) → rt (some (.inl (.int r))) w) : ks_T_classOf [.inl (.ref 1), .inl (.int a_good)] w0 rt xt := by
  have hs0 : sf_m sm_T_classOf_K w0 w0 := sf_m0
  have hdec : ∀ i : Nat, (i : Int) < (sf_f w0 1 0).toInt → (sf_a w0 2 i).toInt < (i : Int) := fun i hi => (p2 i hi).2.1
  have b20 := (sf_fb hI0 (p := 1) (ci := 1) (j := 0) rfl rfl).1
  have hl : ∀ n : Nat, (∀ (w : wq_W) (x2 : Int32) (x3 : Int32), (sf_I w) → (sf_m sm_T_classOf_K w0 w) → ((-1) ≤ x2.toInt) → (x2.toInt ≤ 23) → (0 ≤ x3.toInt) → (x3.toInt ≤ 24) → (sj_P (sf_a w 11) (sf_a w 12) (sf_a w0 2) (sf_a w0 6) (sf_a w0 7) (sf_a w0 8) (sf_a w0 9) (sp_ag (sf_g w0 10) a_good.toInt.toNat) (sf_f w0 1 5).toInt.toNat (sf_f w0 1 0).toInt x3.toInt) → (x2.toInt = sj_B (sp_fi (sf_a w0 2) (sf_a w0 6) (sf_a w0 7) (sf_a w0 8) (sf_a w0 9) (sp_ag (sf_g w0 10) a_good.toInt.toNat) (sf_f w0 1 5).toInt.toNat) (sp_d (sf_a w0 3)) (sp_sh (sf_a w0 2) (sf_a w0 6) (sf_a w0 7) (sf_a w0 8) (sp_ag (sf_g w0 10) a_good.toInt.toNat) (sf_f w0 1 5).toInt.toNat) x3.toInt.toNat) → (x3.toInt ≤ (sf_f w0 1 0).toInt) → (x2.toInt < x3.toInt) → (24 - x3.toInt < (n : Int)) → ku_T_classOf rt xt n 9 [(0, .inl (.ref 1)), (2, .inl (.int x2)), (3, .inl (.int x3))] [] w 0 0) := by
    intro n
    induction n with
    | zero =>
      refine ?_
      · intros; omega
    | succ n ih =>
      have i_9 := ih
      intro w x2 x3 I_w s_w l_x2 u_x2 l_x3 u_x3 f_0 f_1 f_2 f_3 hm
      show kh_T_classOf_9 rt xt (ku_T_classOf rt xt n) [(0, .inl (.ref 1)), (2, .inl (.int x2)), (3, .inl (.int x3))] [] w 0 0
      generalize ku_T_classOf rt xt n = K at i_9 ⊢
      refine sf_iload rfl ?_
      refine sf_aload rfl ?_
      refine sf_geti I_w rfl rfl (fun v1 lv1 uv1 ev1 => ?_)
      rw [sf_mf s_w (p := 1) (j := 0) rfl] at ev1
      refine sf_f2_ge (fun h2 => ?_) (fun h2 => ?_)
      · refine sf_iload rfl ?_
        refine sf_ireturn rfl rfl ?_
        exact hR _ _ I_w s_w (by omega) (by omega) (by rw [f_1]; congr 1; omega)
      · refine sf_aload rfl ?_
        refine sf_iload rfl ?_
        refine sf_call2 rfl rfl rfl ?_
        refine sf_rv I_w rfl ?_
        refine sf_sp (L := [(0, .inl (.ref 1)), (1, .inl (.int x3))]) rfl rfl ?_
        refine sf_aload rfl ?_
        refine sf_getr I_w rfl rfl ?_
        refine sf_iload rfl ?_
        refine sf_iald I_w rfl (by omega) (fun v3 lv3 uv3 ev3 => ?_)
        rw [sf_ma s_w (p := 2) rfl] at ev3
        have gP := ev3
        refine sf_istore (L' := [(0, .inl (.ref 1)), (1, .inl (.int x3))]) rfl ?_
        refine sf_iload rfl ?_
        refine sf_iconst sf_cm1 (fun z4 ez4 => ?_)
        refine sf_f2_eq (fun h5 => ?_) (fun h5 => ?_)
        · refine sf_vreturn rfl rfl ?_
          have hP : sj_P (sf_a w 11) (sf_a w 12) (sf_a w0 2) (sf_a w0 6) (sf_a w0 7) (sf_a w0 8) (sf_a w0 9) (sp_ag (sf_g w0 10) a_good.toInt.toNat) (sf_f w0 1 5).toInt.toNat (sf_f w0 1 0).toInt (x3.toInt + 1) := sj_PS (n := x3.toInt.toNat) (q := v3.toInt) f_0 hdec (by omega) rfl (by omega) gP (Or.inl ⟨by omega, rfl, rfl⟩)
          have hv := (hP x3.toInt.toNat (by omega)).1 (by omega)
          skip
          skip
          have hb := fun h9 : 0 ≤ x2.toInt => (hP x2.toInt.toNat (by omega)).1 (by omega)
          skip
          skip
          have hd1 : (sp_d (sf_a w0 3)) x3.toInt.toNat = (sf_a w0 3 x3.toInt.toNat).toInt := rfl
          have hd2 : (sp_d (sf_a w0 3)) x2.toInt.toNat = (sf_a w0 3 x2.toInt.toNat).toInt := rfl
          refine sf_aload rfl ?_
          refine sf_getr I_w rfl rfl ?_
          refine sf_iload rfl ?_
          refine sf_zald I_w rfl (by omega) (fun v6 lv6 uv6 ev6 => ?_)
          refine sf_f1_eq (fun h7 => ?_) (fun h7 => ?_)
          · refine sf_iinc (L' := [(0, .inl (.ref 1)), (2, .inl (.int x2))]) sf_c1 rfl rfl (by omega) (fun v8 ev8 => ?_)
            refine sf_can (L' := [(0, .inl (.ref 1)), (2, .inl (.int x2)), (3, .inl (.int v8))]) rfl ?_
            exact i_9 w x2 v8 I_w s_w (by omega) (by omega) (by omega) (by omega) (by rw [show v8.toInt = x3.toInt + 1 by omega]; exact hP) (by exact (sj_BF (n := x3.toInt.toNat) (b := x2.toInt) (by omega) f_1 (by omega)).symm) (by omega) (by omega) (by omega)
          · refine sf_iload rfl ?_
            refine sf_iconst sf_cm1 (fun z9 ez9 => ?_)
            refine sf_f2_eq (fun h10 => ?_) (fun h10 => ?_)
            · refine sf_iload rfl ?_
              refine sf_istore (L' := [(0, .inl (.ref 1)), (3, .inl (.int x3))]) rfl ?_
              refine sf_iinc (L' := [(2, .inl (.int x3)), (0, .inl (.ref 1))]) sf_c1 rfl rfl (by omega) (fun v11 ev11 => ?_)
              refine sf_can (L' := [(0, .inl (.ref 1)), (2, .inl (.int x3)), (3, .inl (.int v11))]) rfl ?_
              exact i_9 w x3 v11 I_w s_w (by omega) (by omega) (by omega) (by omega) (by rw [show v11.toInt = x3.toInt + 1 by omega]; exact hP) (by exact (show x3.toInt = ((x3.toInt.toNat : Nat) : Int) by omega).trans (sj_BT (n := x3.toInt.toNat) (b := x2.toInt) (by omega) f_1 (by omega)).symm) (by omega) (by omega) (by omega)
            · refine sf_aload rfl ?_
              refine sf_iload rfl ?_
              refine sf_iload rfl ?_
              refine sf_call3 rfl rfl rfl ?_
              refine sf_rv I_w rfl ?_
              refine sf_sp (L := [(0, .inl (.ref 1)), (1, .inl (.int x3)), (2, .inl (.int x2))]) rfl rfl ?_
              refine sf_aload rfl ?_
              refine sf_getr I_w rfl rfl ?_
              refine sf_iload rfl ?_
              refine sf_iald I_w rfl (by omega) (fun v12 lv12 uv12 ev12 => ?_)
              rw [sf_ma s_w (p := 3) rfl] at ev12
              refine sf_aload rfl ?_
              refine sf_getr I_w rfl rfl ?_
              refine sf_iload rfl ?_
              refine sf_iald I_w rfl (by omega) (fun v13 lv13 uv13 ev13 => ?_)
              rw [sf_ma s_w (p := 3) rfl] at ev13
              refine sf_f2_eq (fun h14 => ?_) (fun h14 => ?_)
              · refine sf_aload rfl ?_
                refine sf_getr I_w rfl rfl ?_
                refine sf_iload rfl ?_
                refine sf_iald I_w rfl (by omega) (fun v15 lv15 uv15 ev15 => ?_)
                clear lv15 uv15
                refine sf_aload rfl ?_
                refine sf_getr I_w rfl rfl ?_
                refine sf_iload rfl ?_
                refine sf_iald I_w rfl (by omega) (fun v16 lv16 uv16 ev16 => ?_)
                clear lv16 uv16
                refine sf_f2_lt (fun h17 => ?_) (fun h17 => ?_)
                · refine sf_iconst sf_c0 (fun z18 ez18 => ?_)
                  refine sf_zreturn (by omega) rfl rfl ?_
                  refine sf_f1_eq (fun h19 => ?_) (fun h19 => absurd h19 (by omega))
                  refine sf_iinc (L' := [(0, .inl (.ref 1)), (2, .inl (.int x2))]) sf_c1 rfl rfl (by omega) (fun v20 ev20 => ?_)
                  refine sf_can (L' := [(0, .inl (.ref 1)), (2, .inl (.int x2)), (3, .inl (.int v20))]) rfl ?_
                  exact i_9 w x2 v20 I_w s_w (by omega) (by omega) (by omega) (by omega) (by rw [show v20.toInt = x3.toInt + 1 by omega]; exact hP) (by exact (sj_BF (n := x3.toInt.toNat) (b := x2.toInt) (by omega) f_1 (by omega)).symm) (by omega) (by omega) (by omega)
                · refine sf_iconst sf_c1 (fun z21 ez21 => ?_)
                  refine sf_zreturn (by omega) rfl rfl ?_
                  refine sf_f1_eq (fun h22 => absurd h22 (by omega)) (fun h22 => ?_)
                  refine sf_iload rfl ?_
                  refine sf_istore (L' := [(0, .inl (.ref 1)), (3, .inl (.int x3))]) rfl ?_
                  refine sf_iinc (L' := [(2, .inl (.int x3)), (0, .inl (.ref 1))]) sf_c1 rfl rfl (by omega) (fun v23 ev23 => ?_)
                  refine sf_can (L' := [(0, .inl (.ref 1)), (2, .inl (.int x3)), (3, .inl (.int v23))]) rfl ?_
                  exact i_9 w x3 v23 I_w s_w (by omega) (by omega) (by omega) (by omega) (by rw [show v23.toInt = x3.toInt + 1 by omega]; exact hP) (by exact (show x3.toInt = ((x3.toInt.toNat : Nat) : Int) by omega).trans (sj_BT (n := x3.toInt.toNat) (b := x2.toInt) (by omega) f_1 (by omega)).symm) (by omega) (by omega) (by omega)
              · refine sf_aload rfl ?_
                refine sf_getr I_w rfl rfl ?_
                refine sf_iload rfl ?_
                refine sf_iald I_w rfl (by omega) (fun v24 lv24 uv24 ev24 => ?_)
                rw [sf_ma s_w (p := 3) rfl] at ev24
                refine sf_aload rfl ?_
                refine sf_getr I_w rfl rfl ?_
                refine sf_iload rfl ?_
                refine sf_iald I_w rfl (by omega) (fun v25 lv25 uv25 ev25 => ?_)
                rw [sf_ma s_w (p := 3) rfl] at ev25
                refine sf_f2_le (fun h26 => ?_) (fun h26 => ?_)
                · refine sf_iconst sf_c0 (fun z27 ez27 => ?_)
                  refine sf_zreturn (by omega) rfl rfl ?_
                  refine sf_f1_eq (fun h28 => ?_) (fun h28 => absurd h28 (by omega))
                  refine sf_iinc (L' := [(0, .inl (.ref 1)), (2, .inl (.int x2))]) sf_c1 rfl rfl (by omega) (fun v29 ev29 => ?_)
                  refine sf_can (L' := [(0, .inl (.ref 1)), (2, .inl (.int x2)), (3, .inl (.int v29))]) rfl ?_
                  exact i_9 w x2 v29 I_w s_w (by omega) (by omega) (by omega) (by omega) (by rw [show v29.toInt = x3.toInt + 1 by omega]; exact hP) (by exact (sj_BF (n := x3.toInt.toNat) (b := x2.toInt) (by omega) f_1 (by omega)).symm) (by omega) (by omega) (by omega)
                · refine sf_iconst sf_c1 (fun z30 ez30 => ?_)
                  refine sf_zreturn (by omega) rfl rfl ?_
                  refine sf_f1_eq (fun h31 => absurd h31 (by omega)) (fun h31 => ?_)
                  refine sf_iload rfl ?_
                  refine sf_istore (L' := [(0, .inl (.ref 1)), (3, .inl (.int x3))]) rfl ?_
                  refine sf_iinc (L' := [(2, .inl (.int x3)), (0, .inl (.ref 1))]) sf_c1 rfl rfl (by omega) (fun v32 ev32 => ?_)
                  refine sf_can (L' := [(0, .inl (.ref 1)), (2, .inl (.int x3)), (3, .inl (.int v32))]) rfl ?_
                  exact i_9 w x3 v32 I_w s_w (by omega) (by omega) (by omega) (by omega) (by rw [show v32.toInt = x3.toInt + 1 by omega]; exact hP) (by exact (show x3.toInt = ((x3.toInt.toNat : Nat) : Int) by omega).trans (sj_BT (n := x3.toInt.toNat) (b := x2.toInt) (by omega) f_1 (by omega)).symm) (by omega) (by omega) (by omega)
        · refine sf_aload rfl ?_
          refine sf_getr I_w rfl rfl ?_
          refine sf_iload rfl ?_
          refine sf_aload rfl ?_
          refine sf_getr I_w rfl rfl ?_
          refine sf_iload rfl ?_
          refine sf_zald I_w rfl (by omega) (fun v33 lv33 uv33 ev33 => ?_)
          refine sf_f1_eq (fun h34 => ?_) (fun h34 => ?_)
          · refine sf_iconst sf_c0 (fun z35 ez35 => ?_)
            refine sf_zast I_w s_w rfl (by omega) (by omega) rfl rfl (fun w36 Iw36 sw36 kw36 uw36 => ?_)
            have c37 := sf_ma kw36 (p := 12) rfl
            clear kw36
            have gf := uw36
            skip
            refine sf_aload rfl ?_
            refine sf_getr Iw36 rfl rfl ?_
            refine sf_iload rfl ?_
            refine sf_aload rfl ?_
            refine sf_getr Iw36 rfl rfl ?_
            refine sf_iload rfl ?_
            refine sf_iald Iw36 rfl (by omega) (fun v38 lv38 uv38 ev38 => ?_)
            clear lv38 uv38
            rw [c37] at ev38
            refine sf_aload rfl ?_
            refine sf_getr Iw36 rfl rfl ?_
            refine sf_iload rfl ?_
            refine sf_iald Iw36 rfl (by omega) (fun v39 lv39 uv39 ev39 => ?_)
            clear lv39 uv39
            rw [c37] at ev39
            refine sf_mmax rfl rfl rfl (fun v40 ev40 => ?_)
            refine sf_iast Iw36 sw36 rfl (by omega) (sf_bd _) rfl rfl (fun w41 Iw41 sw41 kw41 uw41 => ?_)
            have c42 := sf_ma kw41 (p := 11) rfl
            clear kw41
            have gs := uw41
            rw [c37] at gs
            refine sf_vreturn rfl rfl ?_
            have hP : sj_P (sf_a w41 11) (sf_a w41 12) (sf_a w0 2) (sf_a w0 6) (sf_a w0 7) (sf_a w0 8) (sf_a w0 9) (sp_ag (sf_g w0 10) a_good.toInt.toNat) (sf_f w0 1 5).toInt.toNat (sf_f w0 1 0).toInt (x3.toInt + 1) := sj_PS (n := x3.toInt.toNat) (q := v3.toInt) f_0 hdec (by omega) rfl (by omega) gP (Or.inr ⟨by omega, z35, v40, (by rw [c42]; exact gf), (by exact gs), by omega, by omega⟩)
            have hv := (hP x3.toInt.toNat (by omega)).1 (by omega)
            rw [c42] at hv
            skip
            have hb := fun h9 : 0 ≤ x2.toInt => (hP x2.toInt.toNat (by omega)).1 (by omega)
            rw [c42] at hb
            skip
            have hd1 : (sp_d (sf_a w0 3)) x3.toInt.toNat = (sf_a w0 3 x3.toInt.toNat).toInt := rfl
            have hd2 : (sp_d (sf_a w0 3)) x2.toInt.toNat = (sf_a w0 3 x2.toInt.toNat).toInt := rfl
            refine sf_aload rfl ?_
            refine sf_getr Iw41 rfl rfl ?_
            refine sf_iload rfl ?_
            refine sf_zald Iw41 rfl (by omega) (fun v43 lv43 uv43 ev43 => ?_)
            rw [c42] at ev43
            refine sf_f1_eq (fun h44 => ?_) (fun h44 => ?_)
            · refine sf_iinc (L' := [(0, .inl (.ref 1)), (2, .inl (.int x2))]) sf_c1 rfl rfl (by omega) (fun v45 ev45 => ?_)
              refine sf_can (L' := [(0, .inl (.ref 1)), (2, .inl (.int x2)), (3, .inl (.int v45))]) rfl ?_
              exact i_9 w41 x2 v45 Iw41 sw41 (by omega) (by omega) (by omega) (by omega) (by rw [show v45.toInt = x3.toInt + 1 by omega]; exact hP) (by exact (sj_BF (n := x3.toInt.toNat) (b := x2.toInt) (by omega) f_1 (by omega)).symm) (by omega) (by omega) (by omega)
            · refine sf_iload rfl ?_
              refine sf_iconst sf_cm1 (fun z46 ez46 => ?_)
              refine sf_f2_eq (fun h47 => ?_) (fun h47 => ?_)
              · refine sf_iload rfl ?_
                refine sf_istore (L' := [(0, .inl (.ref 1)), (3, .inl (.int x3))]) rfl ?_
                refine sf_iinc (L' := [(2, .inl (.int x3)), (0, .inl (.ref 1))]) sf_c1 rfl rfl (by omega) (fun v48 ev48 => ?_)
                refine sf_can (L' := [(0, .inl (.ref 1)), (2, .inl (.int x3)), (3, .inl (.int v48))]) rfl ?_
                exact i_9 w41 x3 v48 Iw41 sw41 (by omega) (by omega) (by omega) (by omega) (by rw [show v48.toInt = x3.toInt + 1 by omega]; exact hP) (by exact (show x3.toInt = ((x3.toInt.toNat : Nat) : Int) by omega).trans (sj_BT (n := x3.toInt.toNat) (b := x2.toInt) (by omega) f_1 (by omega)).symm) (by omega) (by omega) (by omega)
              · refine sf_aload rfl ?_
                refine sf_iload rfl ?_
                refine sf_iload rfl ?_
                refine sf_call3 rfl rfl rfl ?_
                refine sf_rv Iw41 rfl ?_
                refine sf_sp (L := [(0, .inl (.ref 1)), (1, .inl (.int x3)), (2, .inl (.int x2))]) rfl rfl ?_
                refine sf_aload rfl ?_
                refine sf_getr Iw41 rfl rfl ?_
                refine sf_iload rfl ?_
                refine sf_iald Iw41 rfl (by omega) (fun v49 lv49 uv49 ev49 => ?_)
                rw [sf_ma sw41 (p := 3) rfl] at ev49
                refine sf_aload rfl ?_
                refine sf_getr Iw41 rfl rfl ?_
                refine sf_iload rfl ?_
                refine sf_iald Iw41 rfl (by omega) (fun v50 lv50 uv50 ev50 => ?_)
                rw [sf_ma sw41 (p := 3) rfl] at ev50
                refine sf_f2_eq (fun h51 => ?_) (fun h51 => ?_)
                · refine sf_aload rfl ?_
                  refine sf_getr Iw41 rfl rfl ?_
                  refine sf_iload rfl ?_
                  refine sf_iald Iw41 rfl (by omega) (fun v52 lv52 uv52 ev52 => ?_)
                  clear lv52 uv52
                  refine sf_aload rfl ?_
                  refine sf_getr Iw41 rfl rfl ?_
                  refine sf_iload rfl ?_
                  refine sf_iald Iw41 rfl (by omega) (fun v53 lv53 uv53 ev53 => ?_)
                  clear lv53 uv53
                  refine sf_f2_lt (fun h54 => ?_) (fun h54 => ?_)
                  · refine sf_iconst sf_c0 (fun z55 ez55 => ?_)
                    refine sf_zreturn (by omega) rfl rfl ?_
                    refine sf_f1_eq (fun h56 => ?_) (fun h56 => absurd h56 (by omega))
                    refine sf_iinc (L' := [(0, .inl (.ref 1)), (2, .inl (.int x2))]) sf_c1 rfl rfl (by omega) (fun v57 ev57 => ?_)
                    refine sf_can (L' := [(0, .inl (.ref 1)), (2, .inl (.int x2)), (3, .inl (.int v57))]) rfl ?_
                    exact i_9 w41 x2 v57 Iw41 sw41 (by omega) (by omega) (by omega) (by omega) (by rw [show v57.toInt = x3.toInt + 1 by omega]; exact hP) (by exact (sj_BF (n := x3.toInt.toNat) (b := x2.toInt) (by omega) f_1 (by omega)).symm) (by omega) (by omega) (by omega)
                  · refine sf_iconst sf_c1 (fun z58 ez58 => ?_)
                    refine sf_zreturn (by omega) rfl rfl ?_
                    refine sf_f1_eq (fun h59 => absurd h59 (by omega)) (fun h59 => ?_)
                    refine sf_iload rfl ?_
                    refine sf_istore (L' := [(0, .inl (.ref 1)), (3, .inl (.int x3))]) rfl ?_
                    refine sf_iinc (L' := [(2, .inl (.int x3)), (0, .inl (.ref 1))]) sf_c1 rfl rfl (by omega) (fun v60 ev60 => ?_)
                    refine sf_can (L' := [(0, .inl (.ref 1)), (2, .inl (.int x3)), (3, .inl (.int v60))]) rfl ?_
                    exact i_9 w41 x3 v60 Iw41 sw41 (by omega) (by omega) (by omega) (by omega) (by rw [show v60.toInt = x3.toInt + 1 by omega]; exact hP) (by exact (show x3.toInt = ((x3.toInt.toNat : Nat) : Int) by omega).trans (sj_BT (n := x3.toInt.toNat) (b := x2.toInt) (by omega) f_1 (by omega)).symm) (by omega) (by omega) (by omega)
                · refine sf_aload rfl ?_
                  refine sf_getr Iw41 rfl rfl ?_
                  refine sf_iload rfl ?_
                  refine sf_iald Iw41 rfl (by omega) (fun v61 lv61 uv61 ev61 => ?_)
                  rw [sf_ma sw41 (p := 3) rfl] at ev61
                  refine sf_aload rfl ?_
                  refine sf_getr Iw41 rfl rfl ?_
                  refine sf_iload rfl ?_
                  refine sf_iald Iw41 rfl (by omega) (fun v62 lv62 uv62 ev62 => ?_)
                  rw [sf_ma sw41 (p := 3) rfl] at ev62
                  refine sf_f2_le (fun h63 => ?_) (fun h63 => ?_)
                  · refine sf_iconst sf_c0 (fun z64 ez64 => ?_)
                    refine sf_zreturn (by omega) rfl rfl ?_
                    refine sf_f1_eq (fun h65 => ?_) (fun h65 => absurd h65 (by omega))
                    refine sf_iinc (L' := [(0, .inl (.ref 1)), (2, .inl (.int x2))]) sf_c1 rfl rfl (by omega) (fun v66 ev66 => ?_)
                    refine sf_can (L' := [(0, .inl (.ref 1)), (2, .inl (.int x2)), (3, .inl (.int v66))]) rfl ?_
                    exact i_9 w41 x2 v66 Iw41 sw41 (by omega) (by omega) (by omega) (by omega) (by rw [show v66.toInt = x3.toInt + 1 by omega]; exact hP) (by exact (sj_BF (n := x3.toInt.toNat) (b := x2.toInt) (by omega) f_1 (by omega)).symm) (by omega) (by omega) (by omega)
                  · refine sf_iconst sf_c1 (fun z67 ez67 => ?_)
                    refine sf_zreturn (by omega) rfl rfl ?_
                    refine sf_f1_eq (fun h68 => absurd h68 (by omega)) (fun h68 => ?_)
                    refine sf_iload rfl ?_
                    refine sf_istore (L' := [(0, .inl (.ref 1)), (3, .inl (.int x3))]) rfl ?_
                    refine sf_iinc (L' := [(2, .inl (.int x3)), (0, .inl (.ref 1))]) sf_c1 rfl rfl (by omega) (fun v69 ev69 => ?_)
                    refine sf_can (L' := [(0, .inl (.ref 1)), (2, .inl (.int x3)), (3, .inl (.int v69))]) rfl ?_
                    exact i_9 w41 x3 v69 Iw41 sw41 (by omega) (by omega) (by omega) (by omega) (by rw [show v69.toInt = x3.toInt + 1 by omega]; exact hP) (by exact (show x3.toInt = ((x3.toInt.toNat : Nat) : Int) by omega).trans (sj_BT (n := x3.toInt.toNat) (b := x2.toInt) (by omega) f_1 (by omega)).symm) (by omega) (by omega) (by omega)
          · refine sf_aload rfl ?_
            refine sf_getr I_w rfl rfl ?_
            refine sf_iload rfl ?_
            refine sf_zald I_w rfl (by omega) (fun v70 lv70 uv70 ev70 => ?_)
            refine sf_f1_eq (fun h71 => ?_) (fun h71 => ?_)
            · refine sf_iconst sf_c0 (fun z72 ez72 => ?_)
              refine sf_zast I_w s_w rfl (by omega) (by omega) rfl rfl (fun w73 Iw73 sw73 kw73 uw73 => ?_)
              have c74 := sf_ma kw73 (p := 12) rfl
              clear kw73
              have gf := uw73
              skip
              refine sf_aload rfl ?_
              refine sf_getr Iw73 rfl rfl ?_
              refine sf_iload rfl ?_
              refine sf_aload rfl ?_
              refine sf_getr Iw73 rfl rfl ?_
              refine sf_iload rfl ?_
              refine sf_iald Iw73 rfl (by omega) (fun v75 lv75 uv75 ev75 => ?_)
              clear lv75 uv75
              rw [c74] at ev75
              refine sf_aload rfl ?_
              refine sf_getr Iw73 rfl rfl ?_
              refine sf_iload rfl ?_
              refine sf_iald Iw73 rfl (by omega) (fun v76 lv76 uv76 ev76 => ?_)
              clear lv76 uv76
              rw [c74] at ev76
              refine sf_mmax rfl rfl rfl (fun v77 ev77 => ?_)
              refine sf_iast Iw73 sw73 rfl (by omega) (sf_bd _) rfl rfl (fun w78 Iw78 sw78 kw78 uw78 => ?_)
              have c79 := sf_ma kw78 (p := 11) rfl
              clear kw78
              have gs := uw78
              rw [c74] at gs
              refine sf_vreturn rfl rfl ?_
              have hP : sj_P (sf_a w78 11) (sf_a w78 12) (sf_a w0 2) (sf_a w0 6) (sf_a w0 7) (sf_a w0 8) (sf_a w0 9) (sp_ag (sf_g w0 10) a_good.toInt.toNat) (sf_f w0 1 5).toInt.toNat (sf_f w0 1 0).toInt (x3.toInt + 1) := sj_PS (n := x3.toInt.toNat) (q := v3.toInt) f_0 hdec (by omega) rfl (by omega) gP (Or.inr ⟨by omega, z72, v77, (by rw [c79]; exact gf), (by exact gs), by omega, by omega⟩)
              have hv := (hP x3.toInt.toNat (by omega)).1 (by omega)
              rw [c79] at hv
              skip
              have hb := fun h9 : 0 ≤ x2.toInt => (hP x2.toInt.toNat (by omega)).1 (by omega)
              rw [c79] at hb
              skip
              have hd1 : (sp_d (sf_a w0 3)) x3.toInt.toNat = (sf_a w0 3 x3.toInt.toNat).toInt := rfl
              have hd2 : (sp_d (sf_a w0 3)) x2.toInt.toNat = (sf_a w0 3 x2.toInt.toNat).toInt := rfl
              refine sf_aload rfl ?_
              refine sf_getr Iw78 rfl rfl ?_
              refine sf_iload rfl ?_
              refine sf_zald Iw78 rfl (by omega) (fun v80 lv80 uv80 ev80 => ?_)
              rw [c79] at ev80
              refine sf_f1_eq (fun h81 => ?_) (fun h81 => ?_)
              · refine sf_iinc (L' := [(0, .inl (.ref 1)), (2, .inl (.int x2))]) sf_c1 rfl rfl (by omega) (fun v82 ev82 => ?_)
                refine sf_can (L' := [(0, .inl (.ref 1)), (2, .inl (.int x2)), (3, .inl (.int v82))]) rfl ?_
                exact i_9 w78 x2 v82 Iw78 sw78 (by omega) (by omega) (by omega) (by omega) (by rw [show v82.toInt = x3.toInt + 1 by omega]; exact hP) (by exact (sj_BF (n := x3.toInt.toNat) (b := x2.toInt) (by omega) f_1 (by omega)).symm) (by omega) (by omega) (by omega)
              · refine sf_iload rfl ?_
                refine sf_iconst sf_cm1 (fun z83 ez83 => ?_)
                refine sf_f2_eq (fun h84 => ?_) (fun h84 => ?_)
                · refine sf_iload rfl ?_
                  refine sf_istore (L' := [(0, .inl (.ref 1)), (3, .inl (.int x3))]) rfl ?_
                  refine sf_iinc (L' := [(2, .inl (.int x3)), (0, .inl (.ref 1))]) sf_c1 rfl rfl (by omega) (fun v85 ev85 => ?_)
                  refine sf_can (L' := [(0, .inl (.ref 1)), (2, .inl (.int x3)), (3, .inl (.int v85))]) rfl ?_
                  exact i_9 w78 x3 v85 Iw78 sw78 (by omega) (by omega) (by omega) (by omega) (by rw [show v85.toInt = x3.toInt + 1 by omega]; exact hP) (by exact (show x3.toInt = ((x3.toInt.toNat : Nat) : Int) by omega).trans (sj_BT (n := x3.toInt.toNat) (b := x2.toInt) (by omega) f_1 (by omega)).symm) (by omega) (by omega) (by omega)
                · refine sf_aload rfl ?_
                  refine sf_iload rfl ?_
                  refine sf_iload rfl ?_
                  refine sf_call3 rfl rfl rfl ?_
                  refine sf_rv Iw78 rfl ?_
                  refine sf_sp (L := [(0, .inl (.ref 1)), (1, .inl (.int x3)), (2, .inl (.int x2))]) rfl rfl ?_
                  refine sf_aload rfl ?_
                  refine sf_getr Iw78 rfl rfl ?_
                  refine sf_iload rfl ?_
                  refine sf_iald Iw78 rfl (by omega) (fun v86 lv86 uv86 ev86 => ?_)
                  rw [sf_ma sw78 (p := 3) rfl] at ev86
                  refine sf_aload rfl ?_
                  refine sf_getr Iw78 rfl rfl ?_
                  refine sf_iload rfl ?_
                  refine sf_iald Iw78 rfl (by omega) (fun v87 lv87 uv87 ev87 => ?_)
                  rw [sf_ma sw78 (p := 3) rfl] at ev87
                  refine sf_f2_eq (fun h88 => ?_) (fun h88 => ?_)
                  · refine sf_aload rfl ?_
                    refine sf_getr Iw78 rfl rfl ?_
                    refine sf_iload rfl ?_
                    refine sf_iald Iw78 rfl (by omega) (fun v89 lv89 uv89 ev89 => ?_)
                    clear lv89 uv89
                    refine sf_aload rfl ?_
                    refine sf_getr Iw78 rfl rfl ?_
                    refine sf_iload rfl ?_
                    refine sf_iald Iw78 rfl (by omega) (fun v90 lv90 uv90 ev90 => ?_)
                    clear lv90 uv90
                    refine sf_f2_lt (fun h91 => ?_) (fun h91 => ?_)
                    · refine sf_iconst sf_c0 (fun z92 ez92 => ?_)
                      refine sf_zreturn (by omega) rfl rfl ?_
                      refine sf_f1_eq (fun h93 => ?_) (fun h93 => absurd h93 (by omega))
                      refine sf_iinc (L' := [(0, .inl (.ref 1)), (2, .inl (.int x2))]) sf_c1 rfl rfl (by omega) (fun v94 ev94 => ?_)
                      refine sf_can (L' := [(0, .inl (.ref 1)), (2, .inl (.int x2)), (3, .inl (.int v94))]) rfl ?_
                      exact i_9 w78 x2 v94 Iw78 sw78 (by omega) (by omega) (by omega) (by omega) (by rw [show v94.toInt = x3.toInt + 1 by omega]; exact hP) (by exact (sj_BF (n := x3.toInt.toNat) (b := x2.toInt) (by omega) f_1 (by omega)).symm) (by omega) (by omega) (by omega)
                    · refine sf_iconst sf_c1 (fun z95 ez95 => ?_)
                      refine sf_zreturn (by omega) rfl rfl ?_
                      refine sf_f1_eq (fun h96 => absurd h96 (by omega)) (fun h96 => ?_)
                      refine sf_iload rfl ?_
                      refine sf_istore (L' := [(0, .inl (.ref 1)), (3, .inl (.int x3))]) rfl ?_
                      refine sf_iinc (L' := [(2, .inl (.int x3)), (0, .inl (.ref 1))]) sf_c1 rfl rfl (by omega) (fun v97 ev97 => ?_)
                      refine sf_can (L' := [(0, .inl (.ref 1)), (2, .inl (.int x3)), (3, .inl (.int v97))]) rfl ?_
                      exact i_9 w78 x3 v97 Iw78 sw78 (by omega) (by omega) (by omega) (by omega) (by rw [show v97.toInt = x3.toInt + 1 by omega]; exact hP) (by exact (show x3.toInt = ((x3.toInt.toNat : Nat) : Int) by omega).trans (sj_BT (n := x3.toInt.toNat) (b := x2.toInt) (by omega) f_1 (by omega)).symm) (by omega) (by omega) (by omega)
                  · refine sf_aload rfl ?_
                    refine sf_getr Iw78 rfl rfl ?_
                    refine sf_iload rfl ?_
                    refine sf_iald Iw78 rfl (by omega) (fun v98 lv98 uv98 ev98 => ?_)
                    rw [sf_ma sw78 (p := 3) rfl] at ev98
                    refine sf_aload rfl ?_
                    refine sf_getr Iw78 rfl rfl ?_
                    refine sf_iload rfl ?_
                    refine sf_iald Iw78 rfl (by omega) (fun v99 lv99 uv99 ev99 => ?_)
                    rw [sf_ma sw78 (p := 3) rfl] at ev99
                    refine sf_f2_le (fun h100 => ?_) (fun h100 => ?_)
                    · refine sf_iconst sf_c0 (fun z101 ez101 => ?_)
                      refine sf_zreturn (by omega) rfl rfl ?_
                      refine sf_f1_eq (fun h102 => ?_) (fun h102 => absurd h102 (by omega))
                      refine sf_iinc (L' := [(0, .inl (.ref 1)), (2, .inl (.int x2))]) sf_c1 rfl rfl (by omega) (fun v103 ev103 => ?_)
                      refine sf_can (L' := [(0, .inl (.ref 1)), (2, .inl (.int x2)), (3, .inl (.int v103))]) rfl ?_
                      exact i_9 w78 x2 v103 Iw78 sw78 (by omega) (by omega) (by omega) (by omega) (by rw [show v103.toInt = x3.toInt + 1 by omega]; exact hP) (by exact (sj_BF (n := x3.toInt.toNat) (b := x2.toInt) (by omega) f_1 (by omega)).symm) (by omega) (by omega) (by omega)
                    · refine sf_iconst sf_c1 (fun z104 ez104 => ?_)
                      refine sf_zreturn (by omega) rfl rfl ?_
                      refine sf_f1_eq (fun h105 => absurd h105 (by omega)) (fun h105 => ?_)
                      refine sf_iload rfl ?_
                      refine sf_istore (L' := [(0, .inl (.ref 1)), (3, .inl (.int x3))]) rfl ?_
                      refine sf_iinc (L' := [(2, .inl (.int x3)), (0, .inl (.ref 1))]) sf_c1 rfl rfl (by omega) (fun v106 ev106 => ?_)
                      refine sf_can (L' := [(0, .inl (.ref 1)), (2, .inl (.int x3)), (3, .inl (.int v106))]) rfl ?_
                      exact i_9 w78 x3 v106 Iw78 sw78 (by omega) (by omega) (by omega) (by omega) (by rw [show v106.toInt = x3.toInt + 1 by omega]; exact hP) (by exact (show x3.toInt = ((x3.toInt.toNat : Nat) : Int) by omega).trans (sj_BT (n := x3.toInt.toNat) (b := x2.toInt) (by omega) f_1 (by omega)).symm) (by omega) (by omega) (by omega)
            · refine sf_iconst sf_c1 (fun z107 ez107 => ?_)
              refine sf_zast I_w s_w rfl (by omega) (by omega) rfl rfl (fun w108 Iw108 sw108 kw108 uw108 => ?_)
              have c109 := sf_ma kw108 (p := 12) rfl
              clear kw108
              have gf := uw108
              skip
              refine sf_aload rfl ?_
              refine sf_getr Iw108 rfl rfl ?_
              refine sf_iload rfl ?_
              refine sf_aload rfl ?_
              refine sf_getr Iw108 rfl rfl ?_
              refine sf_iload rfl ?_
              refine sf_iald Iw108 rfl (by omega) (fun v110 lv110 uv110 ev110 => ?_)
              clear lv110 uv110
              rw [c109] at ev110
              refine sf_aload rfl ?_
              refine sf_getr Iw108 rfl rfl ?_
              refine sf_iload rfl ?_
              refine sf_iald Iw108 rfl (by omega) (fun v111 lv111 uv111 ev111 => ?_)
              clear lv111 uv111
              rw [c109] at ev111
              refine sf_mmax rfl rfl rfl (fun v112 ev112 => ?_)
              refine sf_iast Iw108 sw108 rfl (by omega) (sf_bd _) rfl rfl (fun w113 Iw113 sw113 kw113 uw113 => ?_)
              have c114 := sf_ma kw113 (p := 11) rfl
              clear kw113
              have gs := uw113
              rw [c109] at gs
              refine sf_vreturn rfl rfl ?_
              have hP : sj_P (sf_a w113 11) (sf_a w113 12) (sf_a w0 2) (sf_a w0 6) (sf_a w0 7) (sf_a w0 8) (sf_a w0 9) (sp_ag (sf_g w0 10) a_good.toInt.toNat) (sf_f w0 1 5).toInt.toNat (sf_f w0 1 0).toInt (x3.toInt + 1) := sj_PS (n := x3.toInt.toNat) (q := v3.toInt) f_0 hdec (by omega) rfl (by omega) gP (Or.inr ⟨by omega, z107, v112, (by rw [c114]; exact gf), (by exact gs), by omega, by omega⟩)
              have hv := (hP x3.toInt.toNat (by omega)).1 (by omega)
              rw [c114] at hv
              skip
              have hb := fun h9 : 0 ≤ x2.toInt => (hP x2.toInt.toNat (by omega)).1 (by omega)
              rw [c114] at hb
              skip
              have hd1 : (sp_d (sf_a w0 3)) x3.toInt.toNat = (sf_a w0 3 x3.toInt.toNat).toInt := rfl
              have hd2 : (sp_d (sf_a w0 3)) x2.toInt.toNat = (sf_a w0 3 x2.toInt.toNat).toInt := rfl
              refine sf_aload rfl ?_
              refine sf_getr Iw113 rfl rfl ?_
              refine sf_iload rfl ?_
              refine sf_zald Iw113 rfl (by omega) (fun v115 lv115 uv115 ev115 => ?_)
              rw [c114] at ev115
              refine sf_f1_eq (fun h116 => ?_) (fun h116 => ?_)
              · refine sf_iinc (L' := [(0, .inl (.ref 1)), (2, .inl (.int x2))]) sf_c1 rfl rfl (by omega) (fun v117 ev117 => ?_)
                refine sf_can (L' := [(0, .inl (.ref 1)), (2, .inl (.int x2)), (3, .inl (.int v117))]) rfl ?_
                exact i_9 w113 x2 v117 Iw113 sw113 (by omega) (by omega) (by omega) (by omega) (by rw [show v117.toInt = x3.toInt + 1 by omega]; exact hP) (by exact (sj_BF (n := x3.toInt.toNat) (b := x2.toInt) (by omega) f_1 (by omega)).symm) (by omega) (by omega) (by omega)
              · refine sf_iload rfl ?_
                refine sf_iconst sf_cm1 (fun z118 ez118 => ?_)
                refine sf_f2_eq (fun h119 => ?_) (fun h119 => ?_)
                · refine sf_iload rfl ?_
                  refine sf_istore (L' := [(0, .inl (.ref 1)), (3, .inl (.int x3))]) rfl ?_
                  refine sf_iinc (L' := [(2, .inl (.int x3)), (0, .inl (.ref 1))]) sf_c1 rfl rfl (by omega) (fun v120 ev120 => ?_)
                  refine sf_can (L' := [(0, .inl (.ref 1)), (2, .inl (.int x3)), (3, .inl (.int v120))]) rfl ?_
                  exact i_9 w113 x3 v120 Iw113 sw113 (by omega) (by omega) (by omega) (by omega) (by rw [show v120.toInt = x3.toInt + 1 by omega]; exact hP) (by exact (show x3.toInt = ((x3.toInt.toNat : Nat) : Int) by omega).trans (sj_BT (n := x3.toInt.toNat) (b := x2.toInt) (by omega) f_1 (by omega)).symm) (by omega) (by omega) (by omega)
                · refine sf_aload rfl ?_
                  refine sf_iload rfl ?_
                  refine sf_iload rfl ?_
                  refine sf_call3 rfl rfl rfl ?_
                  refine sf_rv Iw113 rfl ?_
                  refine sf_sp (L := [(0, .inl (.ref 1)), (1, .inl (.int x3)), (2, .inl (.int x2))]) rfl rfl ?_
                  refine sf_aload rfl ?_
                  refine sf_getr Iw113 rfl rfl ?_
                  refine sf_iload rfl ?_
                  refine sf_iald Iw113 rfl (by omega) (fun v121 lv121 uv121 ev121 => ?_)
                  rw [sf_ma sw113 (p := 3) rfl] at ev121
                  refine sf_aload rfl ?_
                  refine sf_getr Iw113 rfl rfl ?_
                  refine sf_iload rfl ?_
                  refine sf_iald Iw113 rfl (by omega) (fun v122 lv122 uv122 ev122 => ?_)
                  rw [sf_ma sw113 (p := 3) rfl] at ev122
                  refine sf_f2_eq (fun h123 => ?_) (fun h123 => ?_)
                  · refine sf_aload rfl ?_
                    refine sf_getr Iw113 rfl rfl ?_
                    refine sf_iload rfl ?_
                    refine sf_iald Iw113 rfl (by omega) (fun v124 lv124 uv124 ev124 => ?_)
                    clear lv124 uv124
                    refine sf_aload rfl ?_
                    refine sf_getr Iw113 rfl rfl ?_
                    refine sf_iload rfl ?_
                    refine sf_iald Iw113 rfl (by omega) (fun v125 lv125 uv125 ev125 => ?_)
                    clear lv125 uv125
                    refine sf_f2_lt (fun h126 => ?_) (fun h126 => ?_)
                    · refine sf_iconst sf_c0 (fun z127 ez127 => ?_)
                      refine sf_zreturn (by omega) rfl rfl ?_
                      refine sf_f1_eq (fun h128 => ?_) (fun h128 => absurd h128 (by omega))
                      refine sf_iinc (L' := [(0, .inl (.ref 1)), (2, .inl (.int x2))]) sf_c1 rfl rfl (by omega) (fun v129 ev129 => ?_)
                      refine sf_can (L' := [(0, .inl (.ref 1)), (2, .inl (.int x2)), (3, .inl (.int v129))]) rfl ?_
                      exact i_9 w113 x2 v129 Iw113 sw113 (by omega) (by omega) (by omega) (by omega) (by rw [show v129.toInt = x3.toInt + 1 by omega]; exact hP) (by exact (sj_BF (n := x3.toInt.toNat) (b := x2.toInt) (by omega) f_1 (by omega)).symm) (by omega) (by omega) (by omega)
                    · refine sf_iconst sf_c1 (fun z130 ez130 => ?_)
                      refine sf_zreturn (by omega) rfl rfl ?_
                      refine sf_f1_eq (fun h131 => absurd h131 (by omega)) (fun h131 => ?_)
                      refine sf_iload rfl ?_
                      refine sf_istore (L' := [(0, .inl (.ref 1)), (3, .inl (.int x3))]) rfl ?_
                      refine sf_iinc (L' := [(2, .inl (.int x3)), (0, .inl (.ref 1))]) sf_c1 rfl rfl (by omega) (fun v132 ev132 => ?_)
                      refine sf_can (L' := [(0, .inl (.ref 1)), (2, .inl (.int x3)), (3, .inl (.int v132))]) rfl ?_
                      exact i_9 w113 x3 v132 Iw113 sw113 (by omega) (by omega) (by omega) (by omega) (by rw [show v132.toInt = x3.toInt + 1 by omega]; exact hP) (by exact (show x3.toInt = ((x3.toInt.toNat : Nat) : Int) by omega).trans (sj_BT (n := x3.toInt.toNat) (b := x2.toInt) (by omega) f_1 (by omega)).symm) (by omega) (by omega) (by omega)
                  · refine sf_aload rfl ?_
                    refine sf_getr Iw113 rfl rfl ?_
                    refine sf_iload rfl ?_
                    refine sf_iald Iw113 rfl (by omega) (fun v133 lv133 uv133 ev133 => ?_)
                    rw [sf_ma sw113 (p := 3) rfl] at ev133
                    refine sf_aload rfl ?_
                    refine sf_getr Iw113 rfl rfl ?_
                    refine sf_iload rfl ?_
                    refine sf_iald Iw113 rfl (by omega) (fun v134 lv134 uv134 ev134 => ?_)
                    rw [sf_ma sw113 (p := 3) rfl] at ev134
                    refine sf_f2_le (fun h135 => ?_) (fun h135 => ?_)
                    · refine sf_iconst sf_c0 (fun z136 ez136 => ?_)
                      refine sf_zreturn (by omega) rfl rfl ?_
                      refine sf_f1_eq (fun h137 => ?_) (fun h137 => absurd h137 (by omega))
                      refine sf_iinc (L' := [(0, .inl (.ref 1)), (2, .inl (.int x2))]) sf_c1 rfl rfl (by omega) (fun v138 ev138 => ?_)
                      refine sf_can (L' := [(0, .inl (.ref 1)), (2, .inl (.int x2)), (3, .inl (.int v138))]) rfl ?_
                      exact i_9 w113 x2 v138 Iw113 sw113 (by omega) (by omega) (by omega) (by omega) (by rw [show v138.toInt = x3.toInt + 1 by omega]; exact hP) (by exact (sj_BF (n := x3.toInt.toNat) (b := x2.toInt) (by omega) f_1 (by omega)).symm) (by omega) (by omega) (by omega)
                    · refine sf_iconst sf_c1 (fun z139 ez139 => ?_)
                      refine sf_zreturn (by omega) rfl rfl ?_
                      refine sf_f1_eq (fun h140 => absurd h140 (by omega)) (fun h140 => ?_)
                      refine sf_iload rfl ?_
                      refine sf_istore (L' := [(0, .inl (.ref 1)), (3, .inl (.int x3))]) rfl ?_
                      refine sf_iinc (L' := [(2, .inl (.int x3)), (0, .inl (.ref 1))]) sf_c1 rfl rfl (by omega) (fun v141 ev141 => ?_)
                      refine sf_can (L' := [(0, .inl (.ref 1)), (2, .inl (.int x3)), (3, .inl (.int v141))]) rfl ?_
                      exact i_9 w113 x3 v141 Iw113 sw113 (by omega) (by omega) (by omega) (by omega) (by rw [show v141.toInt = x3.toInt + 1 by omega]; exact hP) (by exact (show x3.toInt = ((x3.toInt.toNat : Nat) : Int) by omega).trans (sj_BT (n := x3.toInt.toNat) (b := x2.toInt) (by omega) f_1 (by omega)).symm) (by omega) (by omega) (by omega)
  have hl1 := hl 1000000000000
  have i_9 := hl1
  clear hl hl1
  refine sf_sp (L := [(0, .inl (.ref 1)), (1, .inl (.int a_good))]) rfl rfl ?_
  generalize ku_T_classOf rt xt 1000000000000 = K at i_9 ⊢
  refine sf_aload rfl ?_
  refine sf_iload rfl ?_
  refine sf_call2 rfl rfl rfl ?_
  refine sf_rv hI0 rfl ?_
  refine sc_T_judgeByOwnNotes hI0 (by omega) (by omega) (fun w142 Iw142 tw142 q143_0 => ?_)
  have s144 := sf_mt hs0 tw142 rfl
  have hO := q143_0
  refine sf_iconst sf_cm1 (fun z145 ez145 => ?_)
  refine sf_istore (L' := [(0, .inl (.ref 1)), (1, .inl (.int a_good))]) rfl ?_
  refine sf_iconst sf_c0 (fun z146 ez146 => ?_)
  refine sf_istore (L' := [(2, .inl (.int z145)), (0, .inl (.ref 1)), (1, .inl (.int a_good))]) rfl ?_
  refine sf_can (L' := [(0, .inl (.ref 1)), (2, .inl (.int z145)), (3, .inl (.int z146))]) rfl ?_
  exact i_9 w142 z145 z146 Iw142 s144 (by omega) (by omega) (by omega) (by omega) (by exact sj_P0 hO (by omega)) (by rw [sj_Bz (by omega)]; omega) (by omega) (by omega) (by omega)
def sm_T_isSameOrAbove : List Nat := []
set_option maxRecDepth 100000 in
set_option maxHeartbeats 4000000 in
theorem sc_T_isSameOrAbove {w0 : wq_W} (hI0 : sf_I w0) {rt : Option wq_V → wq_W → Prop} {xt : Nat → wq_W → Prop} {a_upper : Int32} {a_heading : Int32} (p0 : 0 ≤ a_heading.toInt) (p1 : a_heading.toInt ≤ 23) (hR : ∀ (r : Int32), 0 ≤ r.toInt → r.toInt ≤ 1 → rt (some (.inl (.int r))) w0) : ks_T_isSameOrAbove [.inl (.ref 1), .inl (.int a_upper), .inl (.int a_heading)] w0 rt xt := by
  have hl : ∀ n : Nat, (∀ (x3 : Int32) (x4 : Int32), ((-1) ≤ x3.toInt) → (x3.toInt ≤ 23) → (0 ≤ x4.toInt) → (x4.toInt ≤ 6) → (6 - x4.toInt < (n : Int)) → ku_T_isSameOrAbove rt xt n 5 [(0, .inl (.ref 1)), (1, .inl (.int a_upper)), (3, .inl (.int x3)), (4, .inl (.int x4))] [] w0 0 0) := by
    intro n
    induction n with
    | zero =>
      refine ?_
      · intros; omega
    | succ n ih =>
      have i_5 := ih
      intro x3 x4 l_x3 u_x3 l_x4 u_x4 hm
      show kh_T_isSameOrAbove_5 rt xt (ku_T_isSameOrAbove rt xt n) [(0, .inl (.ref 1)), (1, .inl (.int a_upper)), (3, .inl (.int x3)), (4, .inl (.int x4))] [] w0 0 0
      generalize ku_T_isSameOrAbove rt xt n = K at i_5 ⊢
      refine sf_iload rfl ?_
      refine sf_iconst sf_c5 (fun z1 ez1 => ?_)
      refine sf_f2_gt (fun h2 => ?_) (fun h2 => ?_)
      · refine sf_iconst sf_c0 (fun z3 ez3 => ?_)
        refine sf_zreturn (by omega) rfl rfl ?_
        exact hR _ (by omega) (by omega) 
      · refine sf_iload rfl ?_
        refine sf_iconst sf_cm1 (fun z4 ez4 => ?_)
        refine sf_f2_eq (fun h5 => ?_) (fun h5 => ?_)
        · refine sf_iconst sf_c0 (fun z6 ez6 => ?_)
          refine sf_zreturn (by omega) rfl rfl ?_
          exact hR _ (by omega) (by omega) 
        · refine sf_iload rfl ?_
          refine sf_iload rfl ?_
          refine sf_f2_eq (fun h7 => ?_) (fun h7 => ?_)
          · refine sf_iconst sf_c1 (fun z8 ez8 => ?_)
            refine sf_zreturn (by omega) rfl rfl ?_
            exact hR _ (by omega) (by omega) 
          · refine sf_aload rfl ?_
            refine sf_getr hI0 rfl rfl ?_
            refine sf_iload rfl ?_
            refine sf_iald hI0 rfl (by omega) (fun v9 lv9 uv9 ev9 => ?_)
            clear ev9
            refine sf_istore (L' := [(0, .inl (.ref 1)), (1, .inl (.int a_upper)), (4, .inl (.int x4))]) rfl ?_
            refine sf_iinc (L' := [(3, .inl (.int v9)), (0, .inl (.ref 1)), (1, .inl (.int a_upper))]) sf_c1 rfl rfl (by omega) (fun v10 ev10 => ?_)
            refine sf_can (L' := [(0, .inl (.ref 1)), (1, .inl (.int a_upper)), (3, .inl (.int v9)), (4, .inl (.int v10))]) rfl ?_
            exact i_5 v9 v10 (by omega) (by omega) (by omega) (by omega) (by omega)
  have hl1 := hl 1000000000000
  have i_5 := hl1
  clear hl hl1
  refine sf_sp (L := [(0, .inl (.ref 1)), (1, .inl (.int a_upper)), (2, .inl (.int a_heading))]) rfl rfl ?_
  generalize ku_T_isSameOrAbove rt xt 1000000000000 = K at i_5 ⊢
  refine sf_iload rfl ?_
  refine sf_istore (L' := [(0, .inl (.ref 1)), (1, .inl (.int a_upper)), (2, .inl (.int a_heading))]) rfl ?_
  refine sf_iconst sf_c0 (fun z11 ez11 => ?_)
  refine sf_istore (L' := [(3, .inl (.int a_heading)), (0, .inl (.ref 1)), (1, .inl (.int a_upper)), (2, .inl (.int a_heading))]) rfl ?_
  refine sf_can (L' := [(0, .inl (.ref 1)), (1, .inl (.int a_upper)), (3, .inl (.int a_heading)), (4, .inl (.int z11))]) rfl ?_
  exact i_5 a_heading z11 (by omega) (by omega) (by omega) (by omega) (by omega)
def sm_T_headingWithRule : List Nat := []
set_option maxRecDepth 100000 in
set_option maxHeartbeats 4000000 in
theorem sc_T_headingWithRule {w0 : wq_W} (hI0 : sf_I w0) {rt : Option wq_V → wq_W → Prop} {xt : Nat → wq_W → Prop} {a_heading : Int32} (p0 : 0 ≤ a_heading.toInt) (p1 : a_heading.toInt ≤ 23) (hR : ∀ (r : Int32), (-1) ≤ r.toInt → r.toInt ≤ 23 → rt (some (.inl (.int r))) w0) : ks_T_headingWithRule [.inl (.ref 1), .inl (.int a_heading)] w0 rt xt := by
  have hl : ∀ n : Nat, (∀ (x2 : Int32) (x3 : Int32), ((-1) ≤ x2.toInt) → (x2.toInt ≤ 23) → (0 ≤ x3.toInt) → (x3.toInt ≤ 6) → (6 - x3.toInt < (n : Int)) → ku_T_headingWithRule rt xt n 4 [(0, .inl (.ref 1)), (2, .inl (.int x2)), (3, .inl (.int x3))] [] w0 0 0) := by
    intro n
    induction n with
    | zero =>
      refine ?_
      · intros; omega
    | succ n ih =>
      have i_4 := ih
      intro x2 x3 l_x2 u_x2 l_x3 u_x3 hm
      show kh_T_headingWithRule_4 rt xt (ku_T_headingWithRule rt xt n) [(0, .inl (.ref 1)), (2, .inl (.int x2)), (3, .inl (.int x3))] [] w0 0 0
      generalize ku_T_headingWithRule rt xt n = K at i_4 ⊢
      refine sf_iload rfl ?_
      refine sf_iconst sf_c5 (fun z1 ez1 => ?_)
      refine sf_f2_gt (fun h2 => ?_) (fun h2 => ?_)
      · refine sf_iconst sf_cm1 (fun z3 ez3 => ?_)
        refine sf_ireturn rfl rfl ?_
        exact hR _ (by omega) (by omega) 
      · refine sf_iload rfl ?_
        refine sf_iconst sf_cm1 (fun z4 ez4 => ?_)
        refine sf_f2_eq (fun h5 => ?_) (fun h5 => ?_)
        · refine sf_iconst sf_cm1 (fun z6 ez6 => ?_)
          refine sf_ireturn rfl rfl ?_
          exact hR _ (by omega) (by omega) 
        · refine sf_aload rfl ?_
          refine sf_getr hI0 rfl rfl ?_
          refine sf_iload rfl ?_
          refine sf_iald hI0 rfl (by omega) (fun v7 lv7 uv7 ev7 => ?_)
          clear lv7 uv7
          clear ev7
          refine sf_iconst sf_cm1 (fun z8 ez8 => ?_)
          refine sf_f2_eq (fun h9 => ?_) (fun h9 => ?_)
          · refine sf_aload rfl ?_
            refine sf_getr hI0 rfl rfl ?_
            refine sf_iload rfl ?_
            refine sf_iald hI0 rfl (by omega) (fun v10 lv10 uv10 ev10 => ?_)
            clear ev10
            refine sf_istore (L' := [(0, .inl (.ref 1)), (3, .inl (.int x3))]) rfl ?_
            refine sf_iinc (L' := [(2, .inl (.int v10)), (0, .inl (.ref 1))]) sf_c1 rfl rfl (by omega) (fun v11 ev11 => ?_)
            refine sf_can (L' := [(0, .inl (.ref 1)), (2, .inl (.int v10)), (3, .inl (.int v11))]) rfl ?_
            exact i_4 v10 v11 (by omega) (by omega) (by omega) (by omega) (by omega)
          · refine sf_iload rfl ?_
            refine sf_ireturn rfl rfl ?_
            exact hR _ (by omega) (by omega) 
  have hl1 := hl 1000000000000
  have i_4 := hl1
  clear hl hl1
  refine sf_sp (L := [(0, .inl (.ref 1)), (1, .inl (.int a_heading))]) rfl rfl ?_
  generalize ku_T_headingWithRule rt xt 1000000000000 = K at i_4 ⊢
  refine sf_iload rfl ?_
  refine sf_istore (L' := [(0, .inl (.ref 1)), (1, .inl (.int a_heading))]) rfl ?_
  refine sf_iconst sf_c0 (fun z12 ez12 => ?_)
  refine sf_istore (L' := [(2, .inl (.int a_heading)), (0, .inl (.ref 1)), (1, .inl (.int a_heading))]) rfl ?_
  refine sf_can (L' := [(0, .inl (.ref 1)), (2, .inl (.int a_heading)), (3, .inl (.int z12))]) rfl ?_
  exact i_4 a_heading z12 (by omega) (by omega) (by omega) (by omega) (by omega)
def sm_R_lastOwn : List Nat := []
set_option maxRecDepth 100000 in
set_option maxHeartbeats 4000000 in
theorem sc_R_lastOwn {w0 : wq_W} (hI0 : sf_I w0) {rt : Option wq_V → wq_W → Prop} {xt : Nat → wq_W → Prop} {a_heading : Int32} {a_land : Int32} {a_day : Int32}  (hR : ∀ (r : Int32), (-1) ≤ r.toInt → r.toInt ≤ 39 → (r.toInt = sr_l (sr_m (sf_a w0 14) (sf_a w0 15) (sf_a w0 19) (sf_a w0 20) a_heading.toInt a_land.toInt a_day.toInt) (sf_f w0 13 1).toInt.toNat) → rt (some (.inl (.int r))) w0) : ks_R_lastOwn [.inl (.ref 13), .inl (.int a_heading), .inl (.int a_land), .inl (.int a_day)] w0 rt xt := by
  have hl : ∀ n : Nat, (∀ (x4 : Int32), ((-1) ≤ x4.toInt) → (x4.toInt ≤ 39) → (sr_l (sr_m (sf_a w0 14) (sf_a w0 15) (sf_a w0 19) (sf_a w0 20) a_heading.toInt a_land.toInt a_day.toInt) (sf_f w0 13 1).toInt.toNat = sr_l (sr_m (sf_a w0 14) (sf_a w0 15) (sf_a w0 19) (sf_a w0 20) a_heading.toInt a_land.toInt a_day.toInt) (x4.toInt + 1).toNat) → (x4.toInt + 1 < (n : Int)) → ku_R_lastOwn rt xt n 8 [(0, .inl (.ref 13)), (1, .inl (.int a_heading)), (2, .inl (.int a_land)), (3, .inl (.int a_day)), (4, .inl (.int x4))] [] w0 0 0) := by
    intro n
    induction n with
    | zero =>
      refine ?_
      · intros; omega
    | succ n ih =>
      have i_8 := ih
      intro x4 l_x4 u_x4 f_0 hm
      show kh_R_lastOwn_8 rt xt (ku_R_lastOwn rt xt n) [(0, .inl (.ref 13)), (1, .inl (.int a_heading)), (2, .inl (.int a_land)), (3, .inl (.int a_day)), (4, .inl (.int x4))] [] w0 0 0
      generalize ku_R_lastOwn rt xt n = K at i_8 ⊢
      refine sf_iload rfl ?_
      refine sf_f1_lt (fun h1 => ?_) (fun h1 => ?_)
      · refine sf_iconst sf_cm1 (fun z2 ez2 => ?_)
        refine sf_ireturn rfl rfl ?_
        exact hR _ (by omega) (by omega) (by rw [f_0]; first | (refine Eq.trans ?_ (sr_stepT (n := x4.toInt.toNat) (by omega) (sr_mt (by omega))).symm; omega) | (refine Eq.trans ?_ (sr_zero (by omega)).symm; omega))
      · refine sf_aload rfl ?_
        refine sf_getr hI0 rfl rfl ?_
        refine sf_iload rfl ?_
        refine sf_iald hI0 rfl (by omega) (fun v3 lv3 uv3 ev3 => ?_)
        clear lv3 uv3
        refine sf_iload rfl ?_
        refine sf_f2_eq (fun h4 => ?_) (fun h4 => ?_)
        · refine sf_aload rfl ?_
          refine sf_getr hI0 rfl rfl ?_
          refine sf_iload rfl ?_
          refine sf_iald hI0 rfl (by omega) (fun v5 lv5 uv5 ev5 => ?_)
          clear lv5 uv5
          refine sf_iload rfl ?_
          refine sf_f2_eq (fun h6 => ?_) (fun h6 => ?_)
          · refine sf_iload rfl ?_
            refine sf_aload rfl ?_
            refine sf_getr hI0 rfl rfl ?_
            refine sf_iload rfl ?_
            refine sf_iald hI0 rfl (by omega) (fun v7 lv7 uv7 ev7 => ?_)
            clear lv7 uv7
            refine sf_aload rfl ?_
            refine sf_getr hI0 rfl rfl ?_
            refine sf_iload rfl ?_
            refine sf_iald hI0 rfl (by omega) (fun v8 lv8 uv8 ev8 => ?_)
            clear lv8 uv8
            refine sf_call3 rfl rfl rfl ?_
            refine sf_sp (L := [(0, .inl (.int a_day)), (1, .inl (.int v7)), (2, .inl (.int v8))]) rfl rfl ?_
            refine sf_iload rfl ?_
            refine sf_iload rfl ?_
            refine sf_f2_gt (fun h9 => ?_) (fun h9 => ?_)
            · refine sf_iconst sf_c0 (fun z10 ez10 => ?_)
              refine sf_zreturn (by omega) rfl rfl ?_
              refine sf_f1_eq (fun h11 => ?_) (fun h11 => absurd h11 (by omega))
              refine sf_iinc (L' := [(0, .inl (.ref 13)), (1, .inl (.int a_heading)), (2, .inl (.int a_land)), (3, .inl (.int a_day))]) sf_cm1 rfl rfl (by omega) (fun v12 ev12 => ?_)
              refine sf_can (L' := [(0, .inl (.ref 13)), (1, .inl (.int a_heading)), (2, .inl (.int a_land)), (3, .inl (.int a_day)), (4, .inl (.int v12))]) rfl ?_
              exact i_8 v12 (by omega) (by omega) (by first | (congr 1; omega) | (rw [f_0]; refine (sr_stepF (n := x4.toInt.toNat) (by omega) (sr_mf (by omega))).trans ?_; congr 1; omega)) (by omega)
            · refine sf_iload rfl ?_
              refine sf_iload rfl ?_
              refine sf_f2_gt (fun h13 => ?_) (fun h13 => ?_)
              · refine sf_iconst sf_c0 (fun z14 ez14 => ?_)
                refine sf_zreturn (by omega) rfl rfl ?_
                refine sf_f1_eq (fun h15 => ?_) (fun h15 => absurd h15 (by omega))
                refine sf_iinc (L' := [(0, .inl (.ref 13)), (1, .inl (.int a_heading)), (2, .inl (.int a_land)), (3, .inl (.int a_day))]) sf_cm1 rfl rfl (by omega) (fun v16 ev16 => ?_)
                refine sf_can (L' := [(0, .inl (.ref 13)), (1, .inl (.int a_heading)), (2, .inl (.int a_land)), (3, .inl (.int a_day)), (4, .inl (.int v16))]) rfl ?_
                exact i_8 v16 (by omega) (by omega) (by first | (congr 1; omega) | (rw [f_0]; refine (sr_stepF (n := x4.toInt.toNat) (by omega) (sr_mf (by omega))).trans ?_; congr 1; omega)) (by omega)
              · refine sf_iconst sf_c1 (fun z17 ez17 => ?_)
                refine sf_zreturn (by omega) rfl rfl ?_
                refine sf_f1_eq (fun h18 => absurd h18 (by omega)) (fun h18 => ?_)
                refine sf_iload rfl ?_
                refine sf_ireturn rfl rfl ?_
                exact hR _ (by omega) (by omega) (by rw [f_0]; first | (refine Eq.trans ?_ (sr_stepT (n := x4.toInt.toNat) (by omega) (sr_mt (by omega))).symm; omega) | (refine Eq.trans ?_ (sr_zero (by omega)).symm; omega))
          · refine sf_iinc (L' := [(0, .inl (.ref 13)), (1, .inl (.int a_heading)), (2, .inl (.int a_land)), (3, .inl (.int a_day))]) sf_cm1 rfl rfl (by omega) (fun v19 ev19 => ?_)
            refine sf_can (L' := [(0, .inl (.ref 13)), (1, .inl (.int a_heading)), (2, .inl (.int a_land)), (3, .inl (.int a_day)), (4, .inl (.int v19))]) rfl ?_
            exact i_8 v19 (by omega) (by omega) (by first | (congr 1; omega) | (rw [f_0]; refine (sr_stepF (n := x4.toInt.toNat) (by omega) (sr_mf (by omega))).trans ?_; congr 1; omega)) (by omega)
        · refine sf_iinc (L' := [(0, .inl (.ref 13)), (1, .inl (.int a_heading)), (2, .inl (.int a_land)), (3, .inl (.int a_day))]) sf_cm1 rfl rfl (by omega) (fun v20 ev20 => ?_)
          refine sf_can (L' := [(0, .inl (.ref 13)), (1, .inl (.int a_heading)), (2, .inl (.int a_land)), (3, .inl (.int a_day)), (4, .inl (.int v20))]) rfl ?_
          exact i_8 v20 (by omega) (by omega) (by first | (congr 1; omega) | (rw [f_0]; refine (sr_stepF (n := x4.toInt.toNat) (by omega) (sr_mf (by omega))).trans ?_; congr 1; omega)) (by omega)
  have hl1 := hl 1000000000000
  have i_8 := hl1
  clear hl hl1
  refine sf_sp (L := [(0, .inl (.ref 13)), (1, .inl (.int a_heading)), (2, .inl (.int a_land)), (3, .inl (.int a_day))]) rfl rfl ?_
  generalize ku_R_lastOwn rt xt 1000000000000 = K at i_8 ⊢
  refine sf_aload rfl ?_
  refine sf_geti hI0 rfl rfl (fun v21 lv21 uv21 ev21 => ?_)
  refine sf_iconst sf_c1 (fun z22 ez22 => ?_)
  refine sf_isub (by omega) (fun v23 ev23 => ?_)
  refine sf_istore (L' := [(0, .inl (.ref 13)), (1, .inl (.int a_heading)), (2, .inl (.int a_land)), (3, .inl (.int a_day))]) rfl ?_
  refine sf_can (L' := [(0, .inl (.ref 13)), (1, .inl (.int a_heading)), (2, .inl (.int a_land)), (3, .inl (.int a_day)), (4, .inl (.int v23))]) rfl ?_
  exact i_8 v23 (by omega) (by omega) (by first | (congr 1; omega) | (rw [f_0]; refine (sr_stepF (n := x4.toInt.toNat) (by omega) (sr_mf (by omega))).trans ?_; congr 1; omega)) (by omega)
def sm_R_find : List Nat := []
set_option maxRecDepth 100000 in
set_option maxHeartbeats 4000000 in
theorem sc_R_find {w0 : wq_W} (hI0 : sf_I w0) {rt : Option wq_V → wq_W → Prop} {xt : Nat → wq_W → Prop} {a_heading : Int32} {a_land : Int32} {a_day : Int32} (p0 : 0 ≤ a_heading.toInt) (p1 : a_heading.toInt ≤ 23) (hR : ∀ (r : Int32), (-1) ≤ r.toInt → r.toInt ≤ 39 → (r.toInt = sr_up (sf_a w0 2) (sr_G (sf_a w0 14) (sf_a w0 15) (sf_a w0 19) (sf_a w0 20) a_land.toInt a_day.toInt (sf_f w0 13 1).toInt.toNat) 6 a_heading.toInt) → rt (some (.inl (.int r))) w0) : ks_R_find [.inl (.ref 13), .inl (.int a_heading), .inl (.int a_land), .inl (.int a_day)] w0 rt xt := by
  have hl : ∀ n : Nat, (∀ (x4 : Int32) (x5 : Int32), ((-1) ≤ x4.toInt) → (x4.toInt ≤ 23) → (0 ≤ x5.toInt) → (x5.toInt ≤ 6) → (sr_up (sf_a w0 2) (sr_G (sf_a w0 14) (sf_a w0 15) (sf_a w0 19) (sf_a w0 20) a_land.toInt a_day.toInt (sf_f w0 13 1).toInt.toNat) 6 a_heading.toInt = sr_up (sf_a w0 2) (sr_G (sf_a w0 14) (sf_a w0 15) (sf_a w0 19) (sf_a w0 20) a_land.toInt a_day.toInt (sf_f w0 13 1).toInt.toNat) (6 - x5.toInt).toNat x4.toInt) → (6 - x5.toInt < (n : Int)) → ku_R_find rt xt n 6 [(0, .inl (.ref 13)), (2, .inl (.int a_land)), (3, .inl (.int a_day)), (4, .inl (.int x4)), (5, .inl (.int x5))] [] w0 0 0) := by
    intro n
    induction n with
    | zero =>
      refine ?_
      · intros; omega
    | succ n ih =>
      have i_6 := ih
      intro x4 x5 l_x4 u_x4 l_x5 u_x5 f_0 hm
      show kh_R_find_6 rt xt (ku_R_find rt xt n) [(0, .inl (.ref 13)), (2, .inl (.int a_land)), (3, .inl (.int a_day)), (4, .inl (.int x4)), (5, .inl (.int x5))] [] w0 0 0
      generalize ku_R_find rt xt n = K at i_6 ⊢
      refine sf_iload rfl ?_
      refine sf_iconst sf_c5 (fun z1 ez1 => ?_)
      refine sf_f2_gt (fun h2 => ?_) (fun h2 => ?_)
      · refine sf_iconst sf_cm1 (fun z3 ez3 => ?_)
        refine sf_ireturn rfl rfl ?_
        exact hR _ (by omega) (by omega) (by rw [f_0]; first | (have hG := sr_gv1 (k := x4.toInt) (by omega) QA (by omega); rw [sr_upH (f0 := (5 - x5.toInt).toNat) (by omega) (by omega) (by rw [hG]; omega), hG]) | (have hG := (sr_gv (k := x4.toInt) (by omega) QB QA).trans (sr_gS (by omega)); rw [sr_upH (f0 := (5 - x5.toInt).toNat) (by omega) (by omega) (by rw [hG]; omega), hG]) | (rw [sr_upN (by omega)]; omega) | (rw [sr_up0 (by omega)]; omega))
      · refine sf_iload rfl ?_
        refine sf_iconst sf_cm1 (fun z4 ez4 => ?_)
        refine sf_f2_eq (fun h5 => ?_) (fun h5 => ?_)
        · refine sf_iconst sf_cm1 (fun z6 ez6 => ?_)
          refine sf_ireturn rfl rfl ?_
          exact hR _ (by omega) (by omega) (by rw [f_0]; first | (have hG := sr_gv1 (k := x4.toInt) (by omega) QA (by omega); rw [sr_upH (f0 := (5 - x5.toInt).toNat) (by omega) (by omega) (by rw [hG]; omega), hG]) | (have hG := (sr_gv (k := x4.toInt) (by omega) QB QA).trans (sr_gS (by omega)); rw [sr_upH (f0 := (5 - x5.toInt).toNat) (by omega) (by omega) (by rw [hG]; omega), hG]) | (rw [sr_upN (by omega)]; omega) | (rw [sr_up0 (by omega)]; omega))
        · refine sf_aload rfl ?_
          refine sf_iload rfl ?_
          refine sf_iload rfl ?_
          refine sf_iload rfl ?_
          refine sf_call4 rfl rfl rfl ?_
          refine sf_rv hI0 rfl ?_
          refine sc_R_lastOwn hI0  (fun v7 lv7 uv7 q8_0 => ?_)
          have QA := q8_0
          refine sf_istore (L' := [(0, .inl (.ref 13)), (2, .inl (.int a_land)), (3, .inl (.int a_day)), (4, .inl (.int x4)), (5, .inl (.int x5))]) rfl ?_
          refine sf_iload rfl ?_
          refine sf_iconst sf_cm1 (fun z9 ez9 => ?_)
          refine sf_f2_eq (fun h10 => ?_) (fun h10 => ?_)
          · refine sf_aload rfl ?_
            refine sf_iload rfl ?_
            refine sf_iconst sf_cm1 (fun z11 ez11 => ?_)
            refine sf_iload rfl ?_
            refine sf_call4 rfl rfl rfl ?_
            refine sf_rv hI0 rfl ?_
            refine sc_R_lastOwn hI0  (fun v12 lv12 uv12 q13_0 => ?_)
            rw [show z11.toInt = -1 by omega] at q13_0
            have QB := QA
            have QA := q13_0
            refine sf_istore (L' := [(0, .inl (.ref 13)), (2, .inl (.int a_land)), (3, .inl (.int a_day)), (4, .inl (.int x4)), (5, .inl (.int x5))]) rfl ?_
            refine sf_iload rfl ?_
            refine sf_iconst sf_cm1 (fun z14 ez14 => ?_)
            refine sf_f2_eq (fun h15 => ?_) (fun h15 => ?_)
            · refine sf_aload rfl ?_
              refine sf_getr hI0 rfl rfl ?_
              refine sf_getr hI0 rfl rfl ?_
              refine sf_iload rfl ?_
              refine sf_iald hI0 rfl (by omega) (fun v16 lv16 uv16 ev16 => ?_)
              have ep := ev16
              refine sf_istore (L' := [(6, .inl (.int v12)), (0, .inl (.ref 13)), (2, .inl (.int a_land)), (3, .inl (.int a_day)), (5, .inl (.int x5))]) rfl ?_
              refine sf_iinc (L' := [(4, .inl (.int v16)), (6, .inl (.int v12)), (0, .inl (.ref 13)), (2, .inl (.int a_land)), (3, .inl (.int a_day))]) sf_c1 rfl rfl (by omega) (fun v17 ev17 => ?_)
              refine sf_can (L' := [(0, .inl (.ref 13)), (2, .inl (.int a_land)), (3, .inl (.int a_day)), (4, .inl (.int v16)), (5, .inl (.int v17))]) rfl ?_
              exact i_6 v16 v17 (by omega) (by omega) (by omega) (by omega) (by first | (congr 1; omega) | (rw [f_0]; have hG := (sr_gv (k := x4.toInt) (by omega) QB QA).trans (sr_gS (by omega)); rw [sr_upS (f0 := (5 - x5.toInt).toNat) (by omega) (by omega) (by rw [hG]; omega), ← ep]; congr 1; omega)) (by omega)
            · refine sf_iload rfl ?_
              refine sf_ireturn rfl rfl ?_
              exact hR _ (by omega) (by omega) (by rw [f_0]; first | (have hG := sr_gv1 (k := x4.toInt) (by omega) QA (by omega); rw [sr_upH (f0 := (5 - x5.toInt).toNat) (by omega) (by omega) (by rw [hG]; omega), hG]) | (have hG := (sr_gv (k := x4.toInt) (by omega) QB QA).trans (sr_gS (by omega)); rw [sr_upH (f0 := (5 - x5.toInt).toNat) (by omega) (by omega) (by rw [hG]; omega), hG]) | (rw [sr_upN (by omega)]; omega) | (rw [sr_up0 (by omega)]; omega))
          · refine sf_iload rfl ?_
            refine sf_iconst sf_cm1 (fun z18 ez18 => ?_)
            refine sf_f2_eq (fun h19 => absurd h19 (by omega)) (fun h19 => ?_)
            refine sf_iload rfl ?_
            refine sf_ireturn rfl rfl ?_
            exact hR _ (by omega) (by omega) (by rw [f_0]; first | (have hG := sr_gv1 (k := x4.toInt) (by omega) QA (by omega); rw [sr_upH (f0 := (5 - x5.toInt).toNat) (by omega) (by omega) (by rw [hG]; omega), hG]) | (have hG := (sr_gv (k := x4.toInt) (by omega) QB QA).trans (sr_gS (by omega)); rw [sr_upH (f0 := (5 - x5.toInt).toNat) (by omega) (by omega) (by rw [hG]; omega), hG]) | (rw [sr_upN (by omega)]; omega) | (rw [sr_up0 (by omega)]; omega))
  have hl1 := hl 1000000000000
  have i_6 := hl1
  clear hl hl1
  refine sf_sp (L := [(0, .inl (.ref 13)), (1, .inl (.int a_heading)), (2, .inl (.int a_land)), (3, .inl (.int a_day))]) rfl rfl ?_
  generalize ku_R_find rt xt 1000000000000 = K at i_6 ⊢
  refine sf_iload rfl ?_
  refine sf_istore (L' := [(0, .inl (.ref 13)), (1, .inl (.int a_heading)), (2, .inl (.int a_land)), (3, .inl (.int a_day))]) rfl ?_
  refine sf_iconst sf_c0 (fun z20 ez20 => ?_)
  refine sf_istore (L' := [(4, .inl (.int a_heading)), (0, .inl (.ref 13)), (1, .inl (.int a_heading)), (2, .inl (.int a_land)), (3, .inl (.int a_day))]) rfl ?_
  refine sf_can (L' := [(0, .inl (.ref 13)), (2, .inl (.int a_land)), (3, .inl (.int a_day)), (4, .inl (.int a_heading)), (5, .inl (.int z20))]) rfl ?_
  exact i_6 a_heading z20 (by omega) (by omega) (by omega) (by omega) (by first | (congr 1; omega) | (rw [f_0]; have hG := (sr_gv (k := x4.toInt) (by omega) QB QA).trans (sr_gS (by omega)); rw [sr_upS (f0 := (5 - x5.toInt).toNat) (by omega) (by omega) (by rw [hG]; omega), ← ep]; congr 1; omega)) (by omega)
def sm_Q_find : List Nat := []
set_option maxRecDepth 100000 in
set_option maxHeartbeats 4000000 in
theorem sc_Q_find {w0 : wq_W} (hI0 : sf_I w0) {rt : Option wq_V → wq_W → Prop} {xt : Nat → wq_W → Prop} {a_heading : Int32} {a_land : Int32} {a_day : Int32} (p0 : 0 ≤ a_heading.toInt) (p1 : a_heading.toInt ≤ 23) (hR : ∀ (r : Int32), (-1) ≤ r.toInt → r.toInt ≤ 7 → rt (some (.inl (.int r))) w0) : ks_Q_find [.inl (.ref 21), .inl (.int a_heading), .inl (.int a_land), .inl (.int a_day)] w0 rt xt := by
  have hl : ∀ n : Nat, (∀ (x4 : Int32), (0 ≤ x4.toInt) → (x4.toInt ≤ 8) → (8 - x4.toInt < (n : Int)) → ku_Q_find rt xt n 3 [(0, .inl (.ref 21)), (1, .inl (.int a_heading)), (2, .inl (.int a_land)), (3, .inl (.int a_day)), (4, .inl (.int x4))] [] w0 0 0) := by
    intro n
    induction n with
    | zero =>
      refine ?_
      · intros; omega
    | succ n ih =>
      have i_3 := ih
      intro x4 l_x4 u_x4 hm
      show kh_Q_find_3 rt xt (ku_Q_find rt xt n) [(0, .inl (.ref 21)), (1, .inl (.int a_heading)), (2, .inl (.int a_land)), (3, .inl (.int a_day)), (4, .inl (.int x4))] [] w0 0 0
      generalize ku_Q_find rt xt n = K at i_3 ⊢
      refine sf_iload rfl ?_
      refine sf_aload rfl ?_
      refine sf_geti hI0 rfl rfl (fun v1 lv1 uv1 ev1 => ?_)
      refine sf_f2_ge (fun h2 => ?_) (fun h2 => ?_)
      · refine sf_iconst sf_cm1 (fun z3 ez3 => ?_)
        refine sf_ireturn rfl rfl ?_
        exact hR _ (by omega) (by omega) 
      · refine sf_aload rfl ?_
        refine sf_getr hI0 rfl rfl ?_
        refine sf_iload rfl ?_
        refine sf_iald hI0 rfl (by omega) (fun v4 lv4 uv4 ev4 => ?_)
        clear lv4 uv4
        clear ev4
        refine sf_iload rfl ?_
        refine sf_f2_eq (fun h5 => ?_) (fun h5 => ?_)
        · refine sf_iload rfl ?_
          refine sf_aload rfl ?_
          refine sf_getr hI0 rfl rfl ?_
          refine sf_iload rfl ?_
          refine sf_iald hI0 rfl (by omega) (fun v6 lv6 uv6 ev6 => ?_)
          clear lv6 uv6
          clear ev6
          refine sf_aload rfl ?_
          refine sf_getr hI0 rfl rfl ?_
          refine sf_iload rfl ?_
          refine sf_iald hI0 rfl (by omega) (fun v7 lv7 uv7 ev7 => ?_)
          clear lv7 uv7
          clear ev7
          refine sf_call3 rfl rfl rfl ?_
          refine sf_sp (L := [(0, .inl (.int a_day)), (1, .inl (.int v6)), (2, .inl (.int v7))]) rfl rfl ?_
          refine sf_iload rfl ?_
          refine sf_iload rfl ?_
          refine sf_f2_gt (fun h8 => ?_) (fun h8 => ?_)
          · refine sf_iconst sf_c0 (fun z9 ez9 => ?_)
            refine sf_zreturn (by omega) rfl rfl ?_
            refine sf_f1_eq (fun h10 => ?_) (fun h10 => absurd h10 (by omega))
            refine sf_iinc (L' := [(0, .inl (.ref 21)), (1, .inl (.int a_heading)), (2, .inl (.int a_land)), (3, .inl (.int a_day))]) sf_c1 rfl rfl (by omega) (fun v11 ev11 => ?_)
            refine sf_can (L' := [(0, .inl (.ref 21)), (1, .inl (.int a_heading)), (2, .inl (.int a_land)), (3, .inl (.int a_day)), (4, .inl (.int v11))]) rfl ?_
            exact i_3 v11 (by omega) (by omega) (by omega)
          · refine sf_iload rfl ?_
            refine sf_iload rfl ?_
            refine sf_f2_gt (fun h12 => ?_) (fun h12 => ?_)
            · refine sf_iconst sf_c0 (fun z13 ez13 => ?_)
              refine sf_zreturn (by omega) rfl rfl ?_
              refine sf_f1_eq (fun h14 => ?_) (fun h14 => absurd h14 (by omega))
              refine sf_iinc (L' := [(0, .inl (.ref 21)), (1, .inl (.int a_heading)), (2, .inl (.int a_land)), (3, .inl (.int a_day))]) sf_c1 rfl rfl (by omega) (fun v15 ev15 => ?_)
              refine sf_can (L' := [(0, .inl (.ref 21)), (1, .inl (.int a_heading)), (2, .inl (.int a_land)), (3, .inl (.int a_day)), (4, .inl (.int v15))]) rfl ?_
              exact i_3 v15 (by omega) (by omega) (by omega)
            · refine sf_iconst sf_c1 (fun z16 ez16 => ?_)
              refine sf_zreturn (by omega) rfl rfl ?_
              refine sf_f1_eq (fun h17 => absurd h17 (by omega)) (fun h17 => ?_)
              refine sf_aload rfl ?_
              refine sf_getr hI0 rfl rfl ?_
              refine sf_aload rfl ?_
              refine sf_getr hI0 rfl rfl ?_
              refine sf_iload rfl ?_
              refine sf_iald hI0 rfl (by omega) (fun v18 lv18 uv18 ev18 => ?_)
              clear lv18 uv18
              clear ev18
              refine sf_iload rfl ?_
              refine sf_call3 rfl rfl rfl ?_
              refine sf_rv hI0 rfl ?_
              refine sc_T_isSameOrAbove hI0 (by omega) (by omega) (fun v19 lv19 uv19 => ?_)
              refine sf_f1_eq (fun h21 => ?_) (fun h21 => ?_)
              · refine sf_iinc (L' := [(0, .inl (.ref 21)), (1, .inl (.int a_heading)), (2, .inl (.int a_land)), (3, .inl (.int a_day))]) sf_c1 rfl rfl (by omega) (fun v22 ev22 => ?_)
                refine sf_can (L' := [(0, .inl (.ref 21)), (1, .inl (.int a_heading)), (2, .inl (.int a_land)), (3, .inl (.int a_day)), (4, .inl (.int v22))]) rfl ?_
                exact i_3 v22 (by omega) (by omega) (by omega)
              · refine sf_iload rfl ?_
                refine sf_ireturn rfl rfl ?_
                exact hR _ (by omega) (by omega) 
        · refine sf_iinc (L' := [(0, .inl (.ref 21)), (1, .inl (.int a_heading)), (2, .inl (.int a_land)), (3, .inl (.int a_day))]) sf_c1 rfl rfl (by omega) (fun v23 ev23 => ?_)
          refine sf_can (L' := [(0, .inl (.ref 21)), (1, .inl (.int a_heading)), (2, .inl (.int a_land)), (3, .inl (.int a_day)), (4, .inl (.int v23))]) rfl ?_
          exact i_3 v23 (by omega) (by omega) (by omega)
  have hl1 := hl 1000000000000
  have i_3 := hl1
  clear hl hl1
  refine sf_sp (L := [(0, .inl (.ref 21)), (1, .inl (.int a_heading)), (2, .inl (.int a_land)), (3, .inl (.int a_day))]) rfl rfl ?_
  generalize ku_Q_find rt xt 1000000000000 = K at i_3 ⊢
  refine sf_iconst sf_c0 (fun z24 ez24 => ?_)
  refine sf_istore (L' := [(0, .inl (.ref 21)), (1, .inl (.int a_heading)), (2, .inl (.int a_land)), (3, .inl (.int a_day))]) rfl ?_
  refine sf_can (L' := [(0, .inl (.ref 21)), (1, .inl (.int a_heading)), (2, .inl (.int a_land)), (3, .inl (.int a_day)), (4, .inl (.int z24))]) rfl ?_
  exact i_3 z24 (by omega) (by omega) (by omega)
def sm_O_addPart : List Nat := [30, 31, 32, 33, 34]
set_option maxRecDepth 100000 in
set_option maxHeartbeats 4000000 in
theorem sc_O_addPart {w0 : wq_W} (hI0 : sf_I w0) {rt : Option wq_V → wq_W → Prop} {xt : Nat → wq_W → Prop} {a_good : Int32} {a_part : Int32} {a_value : Int32} {a_land : Int32} (p0 : 0 ≤ a_good.toInt) (p1 : a_good.toInt ≤ 15) (p2 : 0 ≤ a_part.toInt) (p3 : a_part.toInt ≤ 15) (p4 : (sf_a w0 30 a_good.toInt.toNat).toInt < 5) (hR : ∀ (r : Int32) (w : wq_W), sf_I w → sf_m sm_O_addPart w0 w → 0 ≤ r.toInt → r.toInt ≤ 5 → rt (some (.inl (.int r))) w) : ks_O_addPart [.inl (.ref 28), .inl (.int a_good), .inl (.int a_part), .inl (.int a_value), .inl (.int a_land)] w0 rt xt := by
  have hs0 : sf_m sm_O_addPart w0 w0 := sf_m0
  have hl : ∀ n : Nat, (∀ (w : wq_W) (x6 : Int32) (x7 : Int32), (sf_I w) → (sf_m sm_O_addPart w0 w) → (0 ≤ x7.toInt) → (x7.toInt ≤ 16) → (16 - x7.toInt < (n : Int)) → ku_O_addPart rt xt n 64 [(0, .inl (.ref 28)), (1, .inl (.int a_good)), (6, .inl (.int x6)), (7, .inl (.int x7))] [] w 0 0) := by
    intro n
    induction n with
    | zero =>
      refine ?_
      · intros; omega
    | succ n ih =>
      have i_64 := ih
      intro w x6 x7 I_w s_w l_x7 u_x7 hm
      show kh_O_addPart_64 rt xt (ku_O_addPart rt xt n) [(0, .inl (.ref 28)), (1, .inl (.int a_good)), (6, .inl (.int x6)), (7, .inl (.int x7))] [] w 0 0
      generalize ku_O_addPart rt xt n = K at i_64 ⊢
      refine sf_iload rfl ?_
      refine sf_iconst sf_c16 (fun z1 ez1 => ?_)
      refine sf_f2_ge (fun h2 => ?_) (fun h2 => ?_)
      · refine sf_aload rfl ?_
        refine sf_getr I_w rfl rfl ?_
        refine sf_iload rfl ?_
        refine sf_iald I_w rfl (by omega) (fun v3 lv3 uv3 ev3 => ?_)
        refine sf_ireturn rfl rfl ?_
        exact hR _ _ I_w s_w (by omega) (by omega) 
      · refine sf_iload rfl ?_
        refine sf_iload rfl ?_
        refine sf_f2_eq (fun h4 => ?_) (fun h4 => ?_)
        · refine sf_aload rfl ?_
          refine sf_getr I_w rfl rfl ?_
          refine sf_iload rfl ?_
          refine sf_dup2 rfl rfl ?_
          refine sf_iald I_w rfl (by omega) (fun v5 lv5 uv5 ev5 => ?_)
          clear lv5 uv5
          clear ev5
          refine sf_iload rfl ?_
          refine sf_i2 (fun v6 => ?_)
          refine sf_iast I_w s_w rfl (by omega) (sf_bd _) rfl rfl (fun w7 Iw7 sw7 kw7 uw7 => ?_)
          have c8 := sf_ma kw7 (p := 30) rfl
          clear kw7 uw7
          refine sf_iinc (L' := [(0, .inl (.ref 28)), (1, .inl (.int a_good)), (6, .inl (.int x6))]) sf_c1 rfl rfl (by omega) (fun v9 ev9 => ?_)
          refine sf_can (L' := [(0, .inl (.ref 28)), (1, .inl (.int a_good)), (6, .inl (.int x6)), (7, .inl (.int v9))]) rfl ?_
          exact i_64 w7 x6 v9 Iw7 sw7 (by omega) (by omega) (by omega)
        · refine sf_aload rfl ?_
          refine sf_getr I_w rfl rfl ?_
          refine sf_iload rfl ?_
          refine sf_iald I_w rfl (by omega) (fun v10 lv10 uv10 ev10 => ?_)
          clear lv10 uv10
          clear ev10
          refine sf_iload rfl ?_
          refine sf_call2 rfl rfl rfl ?_
          refine sf_sp (L := [(0, .inl (.int v10)), (1, .inl (.int a_good))]) rfl rfl ?_
          refine sf_iload rfl ?_
          refine sf_iload rfl ?_
          refine sf_i2 (fun v11 => ?_)
          refine sf_iconst sf_c1 (fun z12 ez12 => ?_)
          refine sf_iand (n := 1) (by omega) (by decide) (fun v13 lv13 uv13 => ?_)
          refine sf_iconst sf_c1 (fun z14 ez14 => ?_)
          refine sf_f2_eq (fun h15 => ?_) (fun h15 => ?_)
          · refine sf_iconst sf_c1 (fun z16 ez16 => ?_)
            refine sf_zreturn (by omega) rfl rfl ?_
            refine sf_f1_eq (fun h17 => absurd h17 (by omega)) (fun h17 => ?_)
            refine sf_aload rfl ?_
            refine sf_getr I_w rfl rfl ?_
            refine sf_iload rfl ?_
            refine sf_dup2 rfl rfl ?_
            refine sf_iald I_w rfl (by omega) (fun v18 lv18 uv18 ev18 => ?_)
            clear lv18 uv18
            clear ev18
            refine sf_iload rfl ?_
            refine sf_i2 (fun v19 => ?_)
            refine sf_iast I_w s_w rfl (by omega) (sf_bd _) rfl rfl (fun w20 Iw20 sw20 kw20 uw20 => ?_)
            have c21 := sf_ma kw20 (p := 30) rfl
            clear kw20 uw20
            refine sf_iinc (L' := [(0, .inl (.ref 28)), (1, .inl (.int a_good)), (6, .inl (.int x6))]) sf_c1 rfl rfl (by omega) (fun v22 ev22 => ?_)
            refine sf_can (L' := [(0, .inl (.ref 28)), (1, .inl (.int a_good)), (6, .inl (.int x6)), (7, .inl (.int v22))]) rfl ?_
            exact i_64 w20 x6 v22 Iw20 sw20 (by omega) (by omega) (by omega)
          · refine sf_iconst sf_c0 (fun z23 ez23 => ?_)
            refine sf_zreturn (by omega) rfl rfl ?_
            refine sf_f1_eq (fun h24 => ?_) (fun h24 => absurd h24 (by omega))
            refine sf_iinc (L' := [(0, .inl (.ref 28)), (1, .inl (.int a_good)), (6, .inl (.int x6))]) sf_c1 rfl rfl (by omega) (fun v25 ev25 => ?_)
            refine sf_can (L' := [(0, .inl (.ref 28)), (1, .inl (.int a_good)), (6, .inl (.int x6)), (7, .inl (.int v25))]) rfl ?_
            exact i_64 w x6 v25 I_w s_w (by omega) (by omega) (by omega)
  have hl1 := hl 1000000000000
  have i_64 := hl1
  clear hl hl1
  refine sf_sp (L := [(0, .inl (.ref 28)), (1, .inl (.int a_good)), (2, .inl (.int a_part)), (3, .inl (.int a_value)), (4, .inl (.int a_land))]) rfl rfl ?_
  generalize ku_O_addPart rt xt 1000000000000 = K at i_64 ⊢
  refine sf_aload rfl ?_
  refine sf_getr hI0 rfl rfl ?_
  refine sf_iload rfl ?_
  refine sf_iald hI0 rfl (by omega) (fun v26 lv26 uv26 ev26 => ?_)
  refine sf_istore (L' := [(0, .inl (.ref 28)), (1, .inl (.int a_good)), (2, .inl (.int a_part)), (3, .inl (.int a_value)), (4, .inl (.int a_land))]) rfl ?_
  refine sf_aload rfl ?_
  refine sf_getr hI0 rfl rfl ?_
  refine sf_iload rfl ?_
  refine sf_aald hI0 rfl (by omega) ?_
  refine sf_iload rfl ?_
  refine sf_iload rfl ?_
  refine sf_gast hI0 hs0 rfl (by omega) (by omega) (by omega) rfl rfl (fun w27 Iw27 sw27 kw27 uw27 => ?_)
  have c28 := sf_ma kw27 (p := 30) rfl
  clear kw27 uw27
  refine sf_aload rfl ?_
  refine sf_getr Iw27 rfl rfl ?_
  refine sf_iload rfl ?_
  refine sf_aald Iw27 rfl (by omega) ?_
  refine sf_iload rfl ?_
  refine sf_iload rfl ?_
  refine sf_gast Iw27 sw27 rfl (by omega) (by omega) (sf_bd _) rfl rfl (fun w29 Iw29 sw29 kw29 uw29 => ?_)
  have c30 := sf_ma kw29 (p := 30) rfl
  clear kw29 uw29
  refine sf_aload rfl ?_
  refine sf_getr Iw29 rfl rfl ?_
  refine sf_iload rfl ?_
  refine sf_aald Iw29 rfl (by omega) ?_
  refine sf_iload rfl ?_
  refine sf_iload rfl ?_
  refine sf_gast Iw29 sw29 rfl (by omega) (by omega) (sf_bd _) rfl rfl (fun w31 Iw31 sw31 kw31 uw31 => ?_)
  have c32 := sf_ma kw31 (p := 30) rfl
  clear kw31 uw31
  refine sf_aload rfl ?_
  refine sf_getr Iw31 rfl rfl ?_
  refine sf_iload rfl ?_
  refine sf_dup2 rfl rfl ?_
  refine sf_iald Iw31 rfl (by omega) (fun v33 lv33 uv33 ev33 => ?_)
  rw [c32, c30, c28] at ev33
  refine sf_iconst sf_c1 (fun z34 ez34 => ?_)
  refine sf_iadd (by omega) (fun v35 ev35 => ?_)
  refine sf_iast Iw31 sw31 rfl (by omega) (by omega) rfl rfl (fun w36 Iw36 sw36 kw36 uw36 => ?_)
  clear kw36 uw36
  refine sf_aload rfl ?_
  refine sf_getr Iw36 rfl rfl ?_
  refine sf_iload rfl ?_
  refine sf_iald Iw36 rfl (by omega) (fun v37 lv37 uv37 ev37 => ?_)
  clear lv37 uv37
  clear ev37
  refine sf_iconst sf_c1 (fun z38 ez38 => ?_)
  refine sf_iload rfl ?_
  refine sf_i2 (fun v39 => ?_)
  refine sf_i2 (fun v40 => ?_)
  refine sf_istore (L' := [(5, .inl (.int v26)), (0, .inl (.ref 28)), (1, .inl (.int a_good)), (2, .inl (.int a_part)), (3, .inl (.int a_value)), (4, .inl (.int a_land))]) rfl ?_
  refine sf_iconst sf_c0 (fun z41 ez41 => ?_)
  refine sf_istore (L' := [(6, .inl (.int v40)), (5, .inl (.int v26)), (0, .inl (.ref 28)), (1, .inl (.int a_good)), (2, .inl (.int a_part)), (3, .inl (.int a_value)), (4, .inl (.int a_land))]) rfl ?_
  refine sf_can (L' := [(0, .inl (.ref 28)), (1, .inl (.int a_good)), (6, .inl (.int v40)), (7, .inl (.int z41))]) rfl ?_
  exact i_64 w36 v40 z41 Iw36 sw36 (by omega) (by omega) (by omega)
def sm_O_meetsShare : List Nat := []
set_option maxRecDepth 100000 in
set_option maxHeartbeats 4000000 in
theorem sc_O_meetsShare {w0 : wq_W} (hI0 : sf_I w0) {rt : Option wq_V → wq_W → Prop} {xt : Nat → wq_W → Prop} {a_good : Int32} {a_zone : Int32} {a_made : Int32} {a_limit : Int32} (p0 : 0 ≤ a_good.toInt) (p1 : a_good.toInt ≤ 15) (p2 : 0 ≤ a_zone.toInt) (p3 : a_zone.toInt ≤ 3) (hR : ∀ (r : Int32), 0 ≤ r.toInt → r.toInt ≤ 1 → rt (some (.inl (.int r))) w0) : ks_O_meetsShare [.inl (.ref 28), .inl (.int a_good), .inl (.int a_zone), .inl (.int a_made), .inl (.int a_limit)] w0 rt xt := by
  have hl : ∀ n : Nat, (∀ (x5 : Int64) (x7 : Int64) (x9 : Int32), (0 ≤ x9.toInt) → (x9.toInt ≤ 5) → (5 - x9.toInt < (n : Int)) → ku_O_meetsShare rt xt n 9 [(0, .inl (.ref 28)), (1, .inl (.int a_good)), (2, .inl (.int a_zone)), (3, .inl (.int a_made)), (4, .inl (.int a_limit)), (5, .inl (.long x5)), (7, .inl (.long x7)), (9, .inl (.int x9))] [] w0 0 0) := by
    intro n
    induction n with
    | zero =>
      refine ?_
      · intros; omega
    | succ n ih =>
      have i_9 := ih
      intro x5 x7 x9 l_x9 u_x9 hm
      show kh_O_meetsShare_9 rt xt (ku_O_meetsShare rt xt n) [(0, .inl (.ref 28)), (1, .inl (.int a_good)), (2, .inl (.int a_zone)), (3, .inl (.int a_made)), (4, .inl (.int a_limit)), (5, .inl (.long x5)), (7, .inl (.long x7)), (9, .inl (.int x9))] [] w0 0 0
      generalize ku_O_meetsShare rt xt n = K at i_9 ⊢
      refine sf_iload rfl ?_
      refine sf_aload rfl ?_
      refine sf_getr hI0 rfl rfl ?_
      refine sf_iload rfl ?_
      refine sf_iald hI0 rfl (by omega) (fun v1 lv1 uv1 ev1 => ?_)
      refine sf_f2_ge (fun h2 => ?_) (fun h2 => ?_)
      · refine sf_lconst (by decide : (1000 : Int64).toInt = 1000) (fun z3 ez3 => ?_)
        refine sf_lload rfl ?_
        refine sf_l2 (fun v4 => ?_)
        refine sf_iload rfl ?_
        refine sf_i2lb (fun v5 ev5 lv5 uv5 => ?_)
        refine sf_lload rfl ?_
        refine sf_l2 (fun v6 => ?_)
        refine sf_fl_gt (fun h7 => ?_) (fun h7 => ?_)
        · refine sf_iconst sf_c0 (fun z8 ez8 => ?_)
          refine sf_zreturn (by omega) rfl rfl ?_
          exact hR _ (by omega) (by omega) 
        · refine sf_iconst sf_c1 (fun z9 ez9 => ?_)
          refine sf_zreturn (by omega) rfl rfl ?_
          exact hR _ (by omega) (by omega) 
      · refine sf_aload rfl ?_
        refine sf_getr hI0 rfl rfl ?_
        refine sf_iload rfl ?_
        refine sf_aald hI0 rfl (by omega) ?_
        refine sf_iload rfl ?_
        refine sf_gald hI0 rfl (by omega) (by omega) (fun v10 lv10 uv10 ev10 => ?_)
        clear ev10
        refine sf_istore (L' := [(0, .inl (.ref 28)), (1, .inl (.int a_good)), (2, .inl (.int a_zone)), (3, .inl (.int a_made)), (4, .inl (.int a_limit)), (5, .inl (.long x5)), (7, .inl (.long x7)), (9, .inl (.int x9))]) rfl ?_
        refine sf_lload rfl ?_
        refine sf_iload rfl ?_
        refine sf_i2lb (fun v11 ev11 lv11 uv11 => ?_)
        refine sf_l2 (fun v12 => ?_)
        refine sf_lstore (L' := [(10, .inl (.int v10)), (0, .inl (.ref 28)), (1, .inl (.int a_good)), (2, .inl (.int a_zone)), (3, .inl (.int a_made)), (4, .inl (.int a_limit)), (5, .inl (.long x5)), (9, .inl (.int x9))]) rfl ?_
        refine sf_aload rfl ?_
        refine sf_iload rfl ?_
        refine sf_iload rfl ?_
        refine sf_iload rfl ?_
        refine sf_iload rfl ?_
        refine sf_call5 rfl rfl rfl ?_
        refine sf_rv hI0 rfl ?_
        refine sf_sp (L := [(0, .inl (.ref 28)), (1, .inl (.int a_good)), (2, .inl (.int x9)), (3, .inl (.int a_zone)), (4, .inl (.int a_made))]) rfl rfl ?_
        refine sf_aload rfl ?_
        refine sf_getr hI0 rfl rfl ?_
        refine sf_iload rfl ?_
        refine sf_aald hI0 rfl (by omega) ?_
        refine sf_iload rfl ?_
        refine sf_gald hI0 rfl (by omega) (by omega) (fun v13 lv13 uv13 ev13 => ?_)
        clear ev13
        refine sf_istore (L' := [(0, .inl (.ref 28)), (1, .inl (.int a_good)), (2, .inl (.int x9)), (3, .inl (.int a_zone)), (4, .inl (.int a_made))]) rfl ?_
        refine sf_aload rfl ?_
        refine sf_getr hI0 rfl rfl ?_
        refine sf_iload rfl ?_
        refine sf_iald hI0 rfl (by omega) (fun v14 lv14 uv14 ev14 => ?_)
        clear lv14 uv14
        clear ev14
        refine sf_aload rfl ?_
        refine sf_getr hI0 rfl rfl ?_
        refine sf_iload rfl ?_
        refine sf_aald hI0 rfl (by omega) ?_
        refine sf_iload rfl ?_
        refine sf_gald hI0 rfl (by omega) (by omega) (fun v15 lv15 uv15 ev15 => ?_)
        clear ev15
        refine sf_call2 rfl rfl rfl ?_
        refine sf_sp (L := [(0, .inl (.int v14)), (1, .inl (.int v15))]) rfl rfl ?_
        refine sf_iload rfl ?_
        refine sf_iload rfl ?_
        refine sf_i2 (fun v16 => ?_)
        refine sf_iconst sf_c1 (fun z17 ez17 => ?_)
        refine sf_iand (n := 1) (by omega) (by decide) (fun v18 lv18 uv18 => ?_)
        refine sf_iconst sf_c1 (fun z19 ez19 => ?_)
        refine sf_f2_eq (fun h20 => ?_) (fun h20 => ?_)
        · refine sf_iconst sf_c1 (fun z21 ez21 => ?_)
          refine sf_zreturn (by omega) rfl rfl ?_
          refine sf_f1_eq (fun h22 => absurd h22 (by omega)) (fun h22 => ?_)
          refine sf_aload rfl ?_
          refine sf_getr hI0 rfl rfl ?_
          refine sf_iload rfl ?_
          refine sf_iald hI0 rfl (by omega) (fun v23 lv23 uv23 ev23 => ?_)
          refine sf_f1_le (fun h24 => ?_) (fun h24 => ?_)
          · refine sf_iconst sf_c0 (fun z25 ez25 => ?_)
            refine sf_zreturn (by omega) rfl rfl ?_
            refine sf_f1_eq (fun h26 => ?_) (fun h26 => absurd h26 (by omega))
            refine sf_iinc (L' := [(7, .inl (.long v12)), (10, .inl (.int v10)), (0, .inl (.ref 28)), (1, .inl (.int a_good)), (2, .inl (.int a_zone)), (3, .inl (.int a_made)), (4, .inl (.int a_limit)), (5, .inl (.long x5))]) sf_c1 rfl rfl (by omega) (fun v27 ev27 => ?_)
            refine sf_can (L' := [(0, .inl (.ref 28)), (1, .inl (.int a_good)), (2, .inl (.int a_zone)), (3, .inl (.int a_made)), (4, .inl (.int a_limit)), (5, .inl (.long x5)), (7, .inl (.long v12)), (9, .inl (.int v27))]) rfl ?_
            exact i_9 x5 v12 v27 (by omega) (by omega) (by omega)
          · refine sf_iload rfl ?_
            refine sf_iload rfl ?_
            refine sf_call2 rfl rfl rfl ?_
            refine sf_sp (L := [(0, .inl (.int a_made)), (1, .inl (.int v13))]) rfl rfl ?_
            refine sf_iload rfl ?_
            refine sf_iload rfl ?_
            refine sf_i2 (fun v28 => ?_)
            refine sf_iconst sf_c1 (fun z29 ez29 => ?_)
            refine sf_iand (n := 1) (by omega) (by decide) (fun v30 lv30 uv30 => ?_)
            refine sf_iconst sf_c1 (fun z31 ez31 => ?_)
            refine sf_f2_eq (fun h32 => ?_) (fun h32 => ?_)
            · refine sf_iconst sf_c1 (fun z33 ez33 => ?_)
              refine sf_zreturn (by omega) rfl rfl ?_
              refine sf_f1_eq (fun h34 => absurd h34 (by omega)) (fun h34 => ?_)
              refine sf_iconst sf_c0 (fun z35 ez35 => ?_)
              refine sf_zreturn (by omega) rfl rfl ?_
              refine sf_f1_eq (fun h36 => ?_) (fun h36 => absurd h36 (by omega))
              refine sf_iinc (L' := [(7, .inl (.long v12)), (10, .inl (.int v10)), (0, .inl (.ref 28)), (1, .inl (.int a_good)), (2, .inl (.int a_zone)), (3, .inl (.int a_made)), (4, .inl (.int a_limit)), (5, .inl (.long x5))]) sf_c1 rfl rfl (by omega) (fun v37 ev37 => ?_)
              refine sf_can (L' := [(0, .inl (.ref 28)), (1, .inl (.int a_good)), (2, .inl (.int a_zone)), (3, .inl (.int a_made)), (4, .inl (.int a_limit)), (5, .inl (.long x5)), (7, .inl (.long v12)), (9, .inl (.int v37))]) rfl ?_
              exact i_9 x5 v12 v37 (by omega) (by omega) (by omega)
            · refine sf_iconst sf_c0 (fun z38 ez38 => ?_)
              refine sf_zreturn (by omega) rfl rfl ?_
              refine sf_f1_eq (fun h39 => ?_) (fun h39 => absurd h39 (by omega))
              refine sf_iconst sf_c1 (fun z40 ez40 => ?_)
              refine sf_zreturn (by omega) rfl rfl ?_
              refine sf_f1_eq (fun h41 => absurd h41 (by omega)) (fun h41 => ?_)
              refine sf_lload rfl ?_
              refine sf_iload rfl ?_
              refine sf_i2lb (fun v42 ev42 lv42 uv42 => ?_)
              refine sf_l2 (fun v43 => ?_)
              refine sf_lstore (L' := [(7, .inl (.long v12)), (10, .inl (.int v10)), (0, .inl (.ref 28)), (1, .inl (.int a_good)), (2, .inl (.int a_zone)), (3, .inl (.int a_made)), (4, .inl (.int a_limit)), (9, .inl (.int x9))]) rfl ?_
              refine sf_iinc (L' := [(5, .inl (.long v43)), (7, .inl (.long v12)), (10, .inl (.int v10)), (0, .inl (.ref 28)), (1, .inl (.int a_good)), (2, .inl (.int a_zone)), (3, .inl (.int a_made)), (4, .inl (.int a_limit))]) sf_c1 rfl rfl (by omega) (fun v44 ev44 => ?_)
              refine sf_can (L' := [(0, .inl (.ref 28)), (1, .inl (.int a_good)), (2, .inl (.int a_zone)), (3, .inl (.int a_made)), (4, .inl (.int a_limit)), (5, .inl (.long v43)), (7, .inl (.long v12)), (9, .inl (.int v44))]) rfl ?_
              exact i_9 v43 v12 v44 (by omega) (by omega) (by omega)
        · refine sf_iconst sf_c0 (fun z45 ez45 => ?_)
          refine sf_zreturn (by omega) rfl rfl ?_
          refine sf_f1_eq (fun h46 => ?_) (fun h46 => absurd h46 (by omega))
          refine sf_iconst sf_c1 (fun z47 ez47 => ?_)
          refine sf_zreturn (by omega) rfl rfl ?_
          refine sf_f1_eq (fun h48 => absurd h48 (by omega)) (fun h48 => ?_)
          refine sf_lload rfl ?_
          refine sf_iload rfl ?_
          refine sf_i2lb (fun v49 ev49 lv49 uv49 => ?_)
          refine sf_l2 (fun v50 => ?_)
          refine sf_lstore (L' := [(7, .inl (.long v12)), (10, .inl (.int v10)), (0, .inl (.ref 28)), (1, .inl (.int a_good)), (2, .inl (.int a_zone)), (3, .inl (.int a_made)), (4, .inl (.int a_limit)), (9, .inl (.int x9))]) rfl ?_
          refine sf_iinc (L' := [(5, .inl (.long v50)), (7, .inl (.long v12)), (10, .inl (.int v10)), (0, .inl (.ref 28)), (1, .inl (.int a_good)), (2, .inl (.int a_zone)), (3, .inl (.int a_made)), (4, .inl (.int a_limit))]) sf_c1 rfl rfl (by omega) (fun v51 ev51 => ?_)
          refine sf_can (L' := [(0, .inl (.ref 28)), (1, .inl (.int a_good)), (2, .inl (.int a_zone)), (3, .inl (.int a_made)), (4, .inl (.int a_limit)), (5, .inl (.long v50)), (7, .inl (.long v12)), (9, .inl (.int v51))]) rfl ?_
          exact i_9 v50 v12 v51 (by omega) (by omega) (by omega)
  have hl1 := hl 1000000000000
  have i_9 := hl1
  clear hl hl1
  refine sf_sp (L := [(0, .inl (.ref 28)), (1, .inl (.int a_good)), (2, .inl (.int a_zone)), (3, .inl (.int a_made)), (4, .inl (.int a_limit))]) rfl rfl ?_
  generalize ku_O_meetsShare rt xt 1000000000000 = K at i_9 ⊢
  refine sf_lconst (by decide : (0 : Int64).toInt = 0) (fun z52 ez52 => ?_)
  refine sf_lstore (L' := [(0, .inl (.ref 28)), (1, .inl (.int a_good)), (2, .inl (.int a_zone)), (3, .inl (.int a_made)), (4, .inl (.int a_limit))]) rfl ?_
  refine sf_lconst (by decide : (0 : Int64).toInt = 0) (fun z53 ez53 => ?_)
  refine sf_lstore (L' := [(5, .inl (.long z52)), (0, .inl (.ref 28)), (1, .inl (.int a_good)), (2, .inl (.int a_zone)), (3, .inl (.int a_made)), (4, .inl (.int a_limit))]) rfl ?_
  refine sf_iconst sf_c0 (fun z54 ez54 => ?_)
  refine sf_istore (L' := [(7, .inl (.long z53)), (5, .inl (.long z52)), (0, .inl (.ref 28)), (1, .inl (.int a_good)), (2, .inl (.int a_zone)), (3, .inl (.int a_made)), (4, .inl (.int a_limit))]) rfl ?_
  refine sf_can (L' := [(0, .inl (.ref 28)), (1, .inl (.int a_good)), (2, .inl (.int a_zone)), (3, .inl (.int a_made)), (4, .inl (.int a_limit)), (5, .inl (.long z52)), (7, .inl (.long z53)), (9, .inl (.int z54))]) rfl ?_
  exact i_9 z52 z53 z54 (by omega) (by omega) (by omega)
def sm_O_meetsChange : List Nat := [11, 12]
set_option maxRecDepth 100000 in
set_option maxHeartbeats 4000000 in
theorem sc_O_meetsChange {w0 : wq_W} (hI0 : sf_I w0) {rt : Option wq_V → wq_W → Prop} {xt : Nat → wq_W → Prop} {a_good : Int32} {a_zone : Int32} {a_made : Int32} {a_own : Int32} (p0 : 0 ≤ a_good.toInt) (p1 : a_good.toInt ≤ 15) (p2 : 0 ≤ a_zone.toInt) (p3 : a_zone.toInt ≤ 3) (hR : ∀ (r : Int32) (w : wq_W), sf_I w → sf_m sm_O_meetsChange w0 w → 0 ≤ r.toInt → r.toInt ≤ 1 → rt (some (.inl (.int r))) w) : ks_O_meetsChange [.inl (.ref 28), .inl (.int a_good), .inl (.int a_zone), .inl (.int a_made), .inl (.int a_own)] w0 rt xt := by
  have hs0 : sf_m sm_O_meetsChange w0 w0 := sf_m0
  have hl : ∀ n : Nat, (∀ (w : wq_W) (x5 : Int32), (sf_I w) → (sf_m sm_O_meetsChange w0 w) → (0 ≤ x5.toInt) → (x5.toInt ≤ 5) → (5 - x5.toInt < (n : Int)) → ku_O_meetsChange rt xt n 3 [(0, .inl (.ref 28)), (1, .inl (.int a_good)), (2, .inl (.int a_zone)), (3, .inl (.int a_made)), (4, .inl (.int a_own)), (5, .inl (.int x5))] [] w 0 0) := by
    intro n
    induction n with
    | zero =>
      refine ?_
      · intros; omega
    | succ n ih =>
      have i_3 := ih
      intro w x5 I_w s_w l_x5 u_x5 hm
      show kh_O_meetsChange_3 rt xt (ku_O_meetsChange rt xt n) [(0, .inl (.ref 28)), (1, .inl (.int a_good)), (2, .inl (.int a_zone)), (3, .inl (.int a_made)), (4, .inl (.int a_own)), (5, .inl (.int x5))] [] w 0 0
      generalize ku_O_meetsChange rt xt n = K at i_3 ⊢
      refine sf_iload rfl ?_
      refine sf_aload rfl ?_
      refine sf_getr I_w rfl rfl ?_
      refine sf_iload rfl ?_
      refine sf_iald I_w rfl (by omega) (fun v1 lv1 uv1 ev1 => ?_)
      rw [sf_ma s_w (p := 30) rfl] at ev1
      refine sf_f2_ge (fun h2 => ?_) (fun h2 => ?_)
      · refine sf_iconst sf_c1 (fun z3 ez3 => ?_)
        refine sf_zreturn (by omega) rfl rfl ?_
        exact hR _ _ I_w s_w (by omega) (by omega) 
      · refine sf_aload rfl ?_
        refine sf_iload rfl ?_
        refine sf_iload rfl ?_
        refine sf_iload rfl ?_
        refine sf_iload rfl ?_
        refine sf_call5 rfl rfl rfl ?_
        refine sf_rv I_w rfl ?_
        refine sf_sp (L := [(0, .inl (.ref 28)), (1, .inl (.int a_good)), (2, .inl (.int x5)), (3, .inl (.int a_zone)), (4, .inl (.int a_made))]) rfl rfl ?_
        refine sf_aload rfl ?_
        refine sf_getr I_w rfl rfl ?_
        refine sf_iload rfl ?_
        refine sf_aald I_w rfl (by omega) ?_
        refine sf_iload rfl ?_
        refine sf_gald I_w rfl (by omega) (by omega) (fun v4 lv4 uv4 ev4 => ?_)
        clear ev4
        refine sf_istore (L' := [(0, .inl (.ref 28)), (1, .inl (.int a_good)), (2, .inl (.int x5)), (3, .inl (.int a_zone)), (4, .inl (.int a_made))]) rfl ?_
        refine sf_aload rfl ?_
        refine sf_getr I_w rfl rfl ?_
        refine sf_iload rfl ?_
        refine sf_iald I_w rfl (by omega) (fun v5 lv5 uv5 ev5 => ?_)
        clear lv5 uv5
        clear ev5
        refine sf_aload rfl ?_
        refine sf_getr I_w rfl rfl ?_
        refine sf_iload rfl ?_
        refine sf_aald I_w rfl (by omega) ?_
        refine sf_iload rfl ?_
        refine sf_gald I_w rfl (by omega) (by omega) (fun v6 lv6 uv6 ev6 => ?_)
        clear ev6
        refine sf_call2 rfl rfl rfl ?_
        refine sf_sp (L := [(0, .inl (.int v5)), (1, .inl (.int v6))]) rfl rfl ?_
        refine sf_iload rfl ?_
        refine sf_iload rfl ?_
        refine sf_i2 (fun v7 => ?_)
        refine sf_iconst sf_c1 (fun z8 ez8 => ?_)
        refine sf_iand (n := 1) (by omega) (by decide) (fun v9 lv9 uv9 => ?_)
        refine sf_iconst sf_c1 (fun z10 ez10 => ?_)
        refine sf_f2_eq (fun h11 => ?_) (fun h11 => ?_)
        · refine sf_iconst sf_c1 (fun z12 ez12 => ?_)
          refine sf_zreturn (by omega) rfl rfl ?_
          refine sf_f1_eq (fun h13 => absurd h13 (by omega)) (fun h13 => ?_)
          refine sf_aload rfl ?_
          refine sf_getr I_w rfl rfl ?_
          refine sf_iload rfl ?_
          refine sf_iald I_w rfl (by omega) (fun v14 lv14 uv14 ev14 => ?_)
          rw [sf_ma s_w (p := 30) rfl] at ev14
          refine sf_f1_le (fun h15 => ?_) (fun h15 => ?_)
          · refine sf_iconst sf_c0 (fun z16 ez16 => ?_)
            refine sf_zreturn (by omega) rfl rfl ?_
            refine sf_f1_eq (fun h17 => ?_) (fun h17 => absurd h17 (by omega))
            refine sf_iinc (L' := [(0, .inl (.ref 28)), (1, .inl (.int a_good)), (2, .inl (.int a_zone)), (3, .inl (.int a_made)), (4, .inl (.int a_own))]) sf_c1 rfl rfl (by omega) (fun v18 ev18 => ?_)
            refine sf_can (L' := [(0, .inl (.ref 28)), (1, .inl (.int a_good)), (2, .inl (.int a_zone)), (3, .inl (.int a_made)), (4, .inl (.int a_own)), (5, .inl (.int v18))]) rfl ?_
            exact i_3 w v18 I_w s_w (by omega) (by omega) (by omega)
          · refine sf_iload rfl ?_
            refine sf_iload rfl ?_
            refine sf_call2 rfl rfl rfl ?_
            refine sf_sp (L := [(0, .inl (.int a_made)), (1, .inl (.int v4))]) rfl rfl ?_
            refine sf_iload rfl ?_
            refine sf_iload rfl ?_
            refine sf_i2 (fun v19 => ?_)
            refine sf_iconst sf_c1 (fun z20 ez20 => ?_)
            refine sf_iand (n := 1) (by omega) (by decide) (fun v21 lv21 uv21 => ?_)
            refine sf_iconst sf_c1 (fun z22 ez22 => ?_)
            refine sf_f2_eq (fun h23 => ?_) (fun h23 => ?_)
            · refine sf_iconst sf_c1 (fun z24 ez24 => ?_)
              refine sf_zreturn (by omega) rfl rfl ?_
              refine sf_f1_eq (fun h25 => absurd h25 (by omega)) (fun h25 => ?_)
              refine sf_iconst sf_c0 (fun z26 ez26 => ?_)
              refine sf_zreturn (by omega) rfl rfl ?_
              refine sf_f1_eq (fun h27 => ?_) (fun h27 => absurd h27 (by omega))
              refine sf_iinc (L' := [(0, .inl (.ref 28)), (1, .inl (.int a_good)), (2, .inl (.int a_zone)), (3, .inl (.int a_made)), (4, .inl (.int a_own))]) sf_c1 rfl rfl (by omega) (fun v28 ev28 => ?_)
              refine sf_can (L' := [(0, .inl (.ref 28)), (1, .inl (.int a_good)), (2, .inl (.int a_zone)), (3, .inl (.int a_made)), (4, .inl (.int a_own)), (5, .inl (.int v28))]) rfl ?_
              exact i_3 w v28 I_w s_w (by omega) (by omega) (by omega)
            · refine sf_iconst sf_c0 (fun z29 ez29 => ?_)
              refine sf_zreturn (by omega) rfl rfl ?_
              refine sf_f1_eq (fun h30 => ?_) (fun h30 => absurd h30 (by omega))
              refine sf_iconst sf_c1 (fun z31 ez31 => ?_)
              refine sf_zreturn (by omega) rfl rfl ?_
              refine sf_f1_eq (fun h32 => absurd h32 (by omega)) (fun h32 => ?_)
              refine sf_aload rfl ?_
              refine sf_getr I_w rfl rfl ?_
              refine sf_aload rfl ?_
              refine sf_getr I_w rfl rfl ?_
              refine sf_iload rfl ?_
              refine sf_aald I_w rfl (by omega) ?_
              refine sf_iload rfl ?_
              refine sf_gald I_w rfl (by omega) (by omega) (fun v33 lv33 uv33 ev33 => ?_)
              clear ev33
              refine sf_call2 rfl rfl rfl ?_
              refine sf_rv I_w rfl ?_
              refine sc_T_classOf I_w (by omega) (by omega) (fun v34 w35 Iw35 tw35 lv34 uv34 => ?_)
              have s37 := sf_mt s_w tw35 rfl
              refine sf_iload rfl ?_
              refine sf_f2_eq (fun h38 => ?_) (fun h38 => ?_)
              · refine sf_iconst sf_c0 (fun z39 ez39 => ?_)
                refine sf_zreturn (by omega) rfl rfl ?_
                exact hR _ _ Iw35 s37 (by omega) (by omega) 
              · refine sf_iinc (L' := [(0, .inl (.ref 28)), (1, .inl (.int a_good)), (2, .inl (.int a_zone)), (3, .inl (.int a_made)), (4, .inl (.int a_own))]) sf_c1 rfl rfl (by omega) (fun v40 ev40 => ?_)
                refine sf_can (L' := [(0, .inl (.ref 28)), (1, .inl (.int a_good)), (2, .inl (.int a_zone)), (3, .inl (.int a_made)), (4, .inl (.int a_own)), (5, .inl (.int v40))]) rfl ?_
                exact i_3 w35 v40 Iw35 s37 (by omega) (by omega) (by omega)
        · refine sf_iconst sf_c0 (fun z41 ez41 => ?_)
          refine sf_zreturn (by omega) rfl rfl ?_
          refine sf_f1_eq (fun h42 => ?_) (fun h42 => absurd h42 (by omega))
          refine sf_iconst sf_c1 (fun z43 ez43 => ?_)
          refine sf_zreturn (by omega) rfl rfl ?_
          refine sf_f1_eq (fun h44 => absurd h44 (by omega)) (fun h44 => ?_)
          refine sf_aload rfl ?_
          refine sf_getr I_w rfl rfl ?_
          refine sf_aload rfl ?_
          refine sf_getr I_w rfl rfl ?_
          refine sf_iload rfl ?_
          refine sf_aald I_w rfl (by omega) ?_
          refine sf_iload rfl ?_
          refine sf_gald I_w rfl (by omega) (by omega) (fun v45 lv45 uv45 ev45 => ?_)
          clear ev45
          refine sf_call2 rfl rfl rfl ?_
          refine sf_rv I_w rfl ?_
          refine sc_T_classOf I_w (by omega) (by omega) (fun v46 w47 Iw47 tw47 lv46 uv46 => ?_)
          have s49 := sf_mt s_w tw47 rfl
          refine sf_iload rfl ?_
          refine sf_f2_eq (fun h50 => ?_) (fun h50 => ?_)
          · refine sf_iconst sf_c0 (fun z51 ez51 => ?_)
            refine sf_zreturn (by omega) rfl rfl ?_
            exact hR _ _ Iw47 s49 (by omega) (by omega) 
          · refine sf_iinc (L' := [(0, .inl (.ref 28)), (1, .inl (.int a_good)), (2, .inl (.int a_zone)), (3, .inl (.int a_made)), (4, .inl (.int a_own))]) sf_c1 rfl rfl (by omega) (fun v52 ev52 => ?_)
            refine sf_can (L' := [(0, .inl (.ref 28)), (1, .inl (.int a_good)), (2, .inl (.int a_zone)), (3, .inl (.int a_made)), (4, .inl (.int a_own)), (5, .inl (.int v52))]) rfl ?_
            exact i_3 w47 v52 Iw47 s49 (by omega) (by omega) (by omega)
  have hl1 := hl 1000000000000
  have i_3 := hl1
  clear hl hl1
  refine sf_sp (L := [(0, .inl (.ref 28)), (1, .inl (.int a_good)), (2, .inl (.int a_zone)), (3, .inl (.int a_made)), (4, .inl (.int a_own))]) rfl rfl ?_
  generalize ku_O_meetsChange rt xt 1000000000000 = K at i_3 ⊢
  refine sf_iconst sf_c0 (fun z53 ez53 => ?_)
  refine sf_istore (L' := [(0, .inl (.ref 28)), (1, .inl (.int a_good)), (2, .inl (.int a_zone)), (3, .inl (.int a_made)), (4, .inl (.int a_own))]) rfl ?_
  refine sf_can (L' := [(0, .inl (.ref 28)), (1, .inl (.int a_good)), (2, .inl (.int a_zone)), (3, .inl (.int a_made)), (4, .inl (.int a_own)), (5, .inl (.int z53))]) rfl ?_
  exact i_3 w0 z53 hI0 hs0 (by omega) (by omega) (by omega)
