def sm_M_take : List Nat := [123]
set_option maxRecDepth 100000 in
set_option maxHeartbeats 4000000 in
theorem sc_M_take {w0 : wq_W} (hI0 : sf_I w0) {rt : Option wq_V → wq_W → Prop} {xt : Nat → wq_W → Prop} {a_good : Int32} {a_units : Int32} {a_held : Int32} (p0 : 0 ≤ a_held.toInt) (p1 : a_held.toInt ≤ 1) (hR : ∀ (r : Int64) (w : wq_W), sf_I w → sf_m sm_M_take w0 w → rt (some (.inl (.long r))) w) : ks_M_take [.inl (.ref 71), .inl (.int a_good), .inl (.int a_units), .inl (.int a_held)] w0 rt xt := by
  have hs0 : sf_m sm_M_take w0 w0 := sf_m0
  have bu := sf_bd a_units
  have hl : ∀ n : Nat, (∀ (w : wq_W) (x4 : Int64) (x6 : Int32) (x7 : Int32), (sf_I w) → (sf_m sm_M_take w0 w) → (0 ≤ x7.toInt) → (x7.toInt ≤ 40) → (2 * (x6.toInt.toNat : Int) + 2 * (40 - x7.toInt) + 2 < (n : Int)) → ku_M_take rt xt n 9 [(0, .inl (.ref 71)), (1, .inl (.int a_good)), (3, .inl (.int a_held)), (4, .inl (.long x4)), (6, .inl (.int x6)), (7, .inl (.int x7))] [] w 0 0) ∧ (∀ (w : wq_W) (x4 : Int64) (x6 : Int32) (x7 : Int32), (sf_I w) → (sf_m sm_M_take w0 w) → (0 ≤ x7.toInt) → (x7.toInt ≤ 39) → (2 * (x6.toInt.toNat : Int) + 2 * (40 - x7.toInt) + 1 < (n : Int)) → ku_M_take rt xt n 18 [(0, .inl (.ref 71)), (1, .inl (.int a_good)), (3, .inl (.int a_held)), (4, .inl (.long x4)), (6, .inl (.int x6)), (7, .inl (.int x7))] [] w 0 0) := by
    intro n
    induction n with
    | zero =>
      refine ⟨?_, ?_⟩
      · intros; omega
      · intros; omega
    | succ n ih =>
      obtain ⟨i_9, i_18⟩ := ih
      refine ⟨?_, ?_⟩
      · intro w x4 x6 x7 I_w s_w l_x7 u_x7 hm
        show kh_M_take_9 rt xt (ku_M_take rt xt n) [(0, .inl (.ref 71)), (1, .inl (.int a_good)), (3, .inl (.int a_held)), (4, .inl (.long x4)), (6, .inl (.int x6)), (7, .inl (.int x7))] [] w 0 0
        generalize ku_M_take rt xt n = K at i_9 i_18 ⊢
        have b6 := sf_bd x6
        refine sf_iload rfl ?_
        refine sf_aload rfl ?_
        refine sf_geti I_w rfl rfl (fun v1 lv1 uv1 ev1 => ?_)
        rw [sf_mf s_w (p := 71) (j := 56) rfl] at ev1
        refine sf_f2_ge (fun h2 => ?_) (fun h2 => ?_)
        · refine sf_lload rfl ?_
          refine sf_lreturn rfl rfl ?_
          exact hR _ _ I_w s_w 
        · refine sf_can (L' := [(0, .inl (.ref 71)), (1, .inl (.int a_good)), (3, .inl (.int a_held)), (4, .inl (.long x4)), (6, .inl (.int x6)), (7, .inl (.int x7))]) rfl ?_
          exact i_18 w x4 x6 x7 I_w s_w (by omega) (by omega) (by omega)
      · intro w x4 x6 x7 I_w s_w l_x7 u_x7 hm
        show kh_M_take_18 rt xt (ku_M_take rt xt n) [(0, .inl (.ref 71)), (1, .inl (.int a_good)), (3, .inl (.int a_held)), (4, .inl (.long x4)), (6, .inl (.int x6)), (7, .inl (.int x7))] [] w 0 0
        generalize ku_M_take rt xt n = K at i_9 i_18 ⊢
        have b6 := sf_bd x6
        refine sf_iload rfl ?_
        refine sf_f1_le (fun h3 => ?_) (fun h3 => ?_)
        · refine sf_iinc (L' := [(0, .inl (.ref 71)), (1, .inl (.int a_good)), (3, .inl (.int a_held)), (4, .inl (.long x4)), (6, .inl (.int x6))]) sf_c1 rfl rfl (by omega) (fun v4 ev4 => ?_)
          refine sf_can (L' := [(0, .inl (.ref 71)), (1, .inl (.int a_good)), (3, .inl (.int a_held)), (4, .inl (.long x4)), (6, .inl (.int x6)), (7, .inl (.int v4))]) rfl ?_
          exact i_9 w x4 x6 v4 I_w s_w (by omega) (by omega) (by omega)
        · refine sf_aload rfl ?_
          refine sf_getr I_w rfl rfl ?_
          refine sf_iload rfl ?_
          refine sf_iald I_w rfl (by omega) (fun v5 lv5 uv5 ev5 => ?_)
          clear lv5 uv5
          clear ev5
          refine sf_iload rfl ?_
          refine sf_f2_eq (fun h6 => ?_) (fun h6 => ?_)
          · refine sf_aload rfl ?_
            refine sf_getr I_w rfl rfl ?_
            refine sf_iload rfl ?_
            refine sf_zald I_w rfl (by omega) (fun v7 lv7 uv7 ev7 => ?_)
            clear ev7
            refine sf_iload rfl ?_
            refine sf_f2_eq (fun h8 => ?_) (fun h8 => ?_)
            · refine sf_aload rfl ?_
              refine sf_getr I_w rfl rfl ?_
              refine sf_iload rfl ?_
              refine sf_iald I_w rfl (by omega) (fun v9 lv9 uv9 ev9 => ?_)
              refine sf_aload rfl ?_
              refine sf_getr I_w rfl rfl ?_
              refine sf_iload rfl ?_
              refine sf_iald I_w rfl (by omega) (fun v10 lv10 uv10 ev10 => ?_)
              rw [sf_ma s_w (p := 122) rfl] at ev10
              refine sf_f2_ge (fun h11 => ?_) (fun h11 => ?_)
              · refine sf_iinc (L' := [(0, .inl (.ref 71)), (1, .inl (.int a_good)), (3, .inl (.int a_held)), (4, .inl (.long x4)), (6, .inl (.int x6))]) sf_c1 rfl rfl (by omega) (fun v12 ev12 => ?_)
                refine sf_can (L' := [(0, .inl (.ref 71)), (1, .inl (.int a_good)), (3, .inl (.int a_held)), (4, .inl (.long x4)), (6, .inl (.int x6)), (7, .inl (.int v12))]) rfl ?_
                exact i_9 w x4 x6 v12 I_w s_w (by omega) (by omega) (by omega)
              · refine sf_lload rfl ?_
                refine sf_aload rfl ?_
                refine sf_getr I_w rfl rfl ?_
                refine sf_iload rfl ?_
                refine sf_lald I_w rfl (by omega) (fun v13 ev13 => ?_)
                clear ev13
                refine sf_aload rfl ?_
                refine sf_getr I_w rfl rfl ?_
                refine sf_iload rfl ?_
                refine sf_iald I_w rfl (by omega) (fun v14 lv14 uv14 ev14 => ?_)
                refine sf_i2l (fun v15 ev15 => ?_)
                refine sf_l2 (fun v16 => ?_)
                refine sf_aload rfl ?_
                refine sf_getr I_w rfl rfl ?_
                refine sf_iload rfl ?_
                refine sf_iald I_w rfl (by omega) (fun v17 lv17 uv17 ev17 => ?_)
                rw [sf_ma s_w (p := 122) rfl] at ev17
                refine sf_i2lb (fun v18 ev18 lv18 uv18 => ?_)
                refine sf_l2d (by omega) (fun v19 => ?_)
                refine sf_l2 (fun v20 => ?_)
                refine sf_lstore (L' := [(0, .inl (.ref 71)), (1, .inl (.int a_good)), (3, .inl (.int a_held)), (6, .inl (.int x6)), (7, .inl (.int x7))]) rfl ?_
                refine sf_aload rfl ?_
                refine sf_getr I_w rfl rfl ?_
                refine sf_iload rfl ?_
                refine sf_dup2 rfl rfl ?_
                refine sf_iald I_w rfl (by omega) (fun v21 lv21 uv21 ev21 => ?_)
                refine sf_iconst sf_c1 (fun z22 ez22 => ?_)
                refine sf_iadd (by omega) (fun v23 ev23 => ?_)
                refine sf_iast I_w s_w rfl (by omega) (by omega) rfl rfl (fun w24 Iw24 sw24 kw24 uw24 => ?_)
                clear kw24 uw24
                refine sf_lload rfl ?_
                refine sf_aload rfl ?_
                refine sf_getr Iw24 rfl rfl ?_
                refine sf_iload rfl ?_
                refine sf_lald Iw24 rfl (by omega) (fun v25 ev25 => ?_)
                clear ev25
                refine sf_aload rfl ?_
                refine sf_getr Iw24 rfl rfl ?_
                refine sf_iload rfl ?_
                refine sf_iald Iw24 rfl (by omega) (fun v26 lv26 uv26 ev26 => ?_)
                refine sf_i2l (fun v27 ev27 => ?_)
                refine sf_l2 (fun v28 => ?_)
                refine sf_aload rfl ?_
                refine sf_getr Iw24 rfl rfl ?_
                refine sf_iload rfl ?_
                refine sf_iald Iw24 rfl (by omega) (fun v29 lv29 uv29 ev29 => ?_)
                rw [sf_ma sw24 (p := 122) rfl] at ev29
                refine sf_i2lb (fun v30 ev30 lv30 uv30 => ?_)
                refine sf_l2d (by omega) (fun v31 => ?_)
                refine sf_l2 (fun v32 => ?_)
                refine sf_lstore (L' := [(0, .inl (.ref 71)), (1, .inl (.int a_good)), (3, .inl (.int a_held)), (6, .inl (.int x6)), (7, .inl (.int x7))]) rfl ?_
                refine sf_iinc (L' := [(4, .inl (.long v32)), (0, .inl (.ref 71)), (1, .inl (.int a_good)), (3, .inl (.int a_held)), (7, .inl (.int x7))]) sf_cm1 rfl rfl (by omega) (fun v33 ev33 => ?_)
                refine sf_can (L' := [(0, .inl (.ref 71)), (1, .inl (.int a_good)), (3, .inl (.int a_held)), (4, .inl (.long v32)), (6, .inl (.int v33)), (7, .inl (.int x7))]) rfl ?_
                exact i_18 w24 v32 v33 x7 Iw24 sw24 (by omega) (by omega) (by omega)
            · refine sf_iinc (L' := [(0, .inl (.ref 71)), (1, .inl (.int a_good)), (3, .inl (.int a_held)), (4, .inl (.long x4)), (6, .inl (.int x6))]) sf_c1 rfl rfl (by omega) (fun v34 ev34 => ?_)
              refine sf_can (L' := [(0, .inl (.ref 71)), (1, .inl (.int a_good)), (3, .inl (.int a_held)), (4, .inl (.long x4)), (6, .inl (.int x6)), (7, .inl (.int v34))]) rfl ?_
              exact i_9 w x4 x6 v34 I_w s_w (by omega) (by omega) (by omega)
          · refine sf_iinc (L' := [(0, .inl (.ref 71)), (1, .inl (.int a_good)), (3, .inl (.int a_held)), (4, .inl (.long x4)), (6, .inl (.int x6))]) sf_c1 rfl rfl (by omega) (fun v35 ev35 => ?_)
            refine sf_can (L' := [(0, .inl (.ref 71)), (1, .inl (.int a_good)), (3, .inl (.int a_held)), (4, .inl (.long x4)), (6, .inl (.int x6)), (7, .inl (.int v35))]) rfl ?_
            exact i_9 w x4 x6 v35 I_w s_w (by omega) (by omega) (by omega)
  have hl1 := hl 1000000000000
  obtain ⟨i_9, i_18⟩ := hl1
  clear hl
  refine sf_sp (L := [(0, .inl (.ref 71)), (1, .inl (.int a_good)), (2, .inl (.int a_units)), (3, .inl (.int a_held))]) rfl rfl ?_
  generalize ku_M_take rt xt 1000000000000 = K at i_9 i_18 ⊢
  refine sf_lconst (by decide : (0 : Int64).toInt = 0) (fun z36 ez36 => ?_)
  refine sf_lstore (L' := [(0, .inl (.ref 71)), (1, .inl (.int a_good)), (2, .inl (.int a_units)), (3, .inl (.int a_held))]) rfl ?_
  refine sf_iload rfl ?_
  refine sf_istore (L' := [(4, .inl (.long z36)), (0, .inl (.ref 71)), (1, .inl (.int a_good)), (2, .inl (.int a_units)), (3, .inl (.int a_held))]) rfl ?_
  refine sf_iconst sf_c0 (fun z37 ez37 => ?_)
  refine sf_istore (L' := [(6, .inl (.int a_units)), (4, .inl (.long z36)), (0, .inl (.ref 71)), (1, .inl (.int a_good)), (2, .inl (.int a_units)), (3, .inl (.int a_held))]) rfl ?_
  refine sf_can (L' := [(0, .inl (.ref 71)), (1, .inl (.int a_good)), (3, .inl (.int a_held)), (4, .inl (.long z36)), (6, .inl (.int a_units)), (7, .inl (.int z37))]) rfl ?_
  exact i_9 w0 z36 a_units z37 hI0 hs0 (by omega) (by omega) (by omega)
