def sm_O_isMadeIn : List Nat := [11, 12]
set_option maxRecDepth 100000 in
set_option maxHeartbeats 4000000 in
theorem sc_O_isMadeIn {w0 : wq_W} (hI0 : sf_I w0) {rt : Option wq_V → wq_W → Prop} {xt : Nat → wq_W → Prop} {a_good : Int32} {a_zone : Int32} (p0 : 0 ≤ a_good.toInt) (p1 : a_good.toInt ≤ 15) (p2 : 0 ≤ a_zone.toInt) (p3 : a_zone.toInt ≤ 3) (hR : ∀ (r : Int32) (w : wq_W), sf_I w → sf_m sm_O_isMadeIn w0 w → 0 ≤ r.toInt → r.toInt ≤ 1 → rt (some (.inl (.int r))) w) : ks_O_isMadeIn [.inl (.ref 28), .inl (.int a_good), .inl (.int a_zone)] w0 rt xt := by
  have hs0 : sf_m sm_O_isMadeIn w0 w0 := sf_m0
  have hl : ∀ n : Nat, (∀ (w : wq_W) (x3 : Int32) (x4 : Int32) (x5 : Int32), (sf_I w) → (sf_m sm_O_isMadeIn w0 w) → (0 ≤ x5.toInt) → (x5.toInt ≤ 64) → ((65 - x5.toInt) * 20 < (n : Int)) → ku_O_isMadeIn rt xt n 17 [(0, .inl (.ref 28)), (1, .inl (.int a_good)), (2, .inl (.int a_zone)), (3, .inl (.int x3)), (4, .inl (.int x4)), (5, .inl (.int x5))] [] w 0 0) ∧ (∀ (w : wq_W) (x3 : Int32) (x4 : Int32) (x5 : Int32) (x6 : Int32), (sf_I w) → (sf_m sm_O_isMadeIn w0 w) → (0 ≤ x5.toInt) → (x5.toInt ≤ 63) → (0 ≤ x6.toInt) → (x6.toInt ≤ 16) → ((65 - x5.toInt) * 20 - 1 - x6.toInt < (n : Int)) → ku_O_isMadeIn rt xt n 34 [(0, .inl (.ref 28)), (1, .inl (.int a_good)), (2, .inl (.int a_zone)), (3, .inl (.int x3)), (4, .inl (.int x4)), (5, .inl (.int x5)), (6, .inl (.int x6))] [] w 0 0) := by
    intro n
    induction n with
    | zero =>
      refine ⟨?_, ?_⟩
      · intros; omega
      · intros; omega
    | succ n ih =>
      obtain ⟨i_17, i_34⟩ := ih
      refine ⟨?_, ?_⟩
      · intro w x3 x4 x5 I_w s_w l_x5 u_x5 hm
        show kh_O_isMadeIn_17 rt xt (ku_O_isMadeIn rt xt n) [(0, .inl (.ref 28)), (1, .inl (.int a_good)), (2, .inl (.int a_zone)), (3, .inl (.int x3)), (4, .inl (.int x4)), (5, .inl (.int x5))] [] w 0 0
        generalize ku_O_isMadeIn rt xt n = K at i_17 i_34 ⊢
        refine sf_iload rfl ?_
        refine sf_aload rfl ?_
        refine sf_getr I_w rfl rfl ?_
        refine sf_iload rfl ?_
        refine sf_iald I_w rfl (by omega) (fun v1 lv1 uv1 ev1 => ?_)
        clear lv1 uv1
        clear ev1
        refine sf_call1 rfl rfl rfl ?_
        refine sc_I_bitCount I_w  (fun v2 lv2 uv2 => ?_)
        refine sf_f2_gt (fun h4 => ?_) (fun h4 => ?_)
        · refine sf_iload rfl ?_
          refine sf_iload rfl ?_
          refine sf_call2 rfl rfl rfl ?_
          refine sf_sp (L := [(0, .inl (.int x4)), (1, .inl (.int a_good))]) rfl rfl ?_
          refine sf_iload rfl ?_
          refine sf_iload rfl ?_
          refine sf_i2 (fun v5 => ?_)
          refine sf_iconst sf_c1 (fun z6 ez6 => ?_)
          refine sf_iand (n := 1) (by omega) (by decide) (fun v7 lv7 uv7 => ?_)
          refine sf_iconst sf_c1 (fun z8 ez8 => ?_)
          refine sf_f2_eq (fun h9 => ?_) (fun h9 => ?_)
          · refine sf_iconst sf_c1 (fun z10 ez10 => ?_)
            refine sf_zreturn (by omega) rfl rfl ?_
            refine sf_zreturn (by omega) rfl rfl ?_
            exact hR _ _ I_w s_w (by omega) (by omega) 
          · refine sf_iconst sf_c0 (fun z11 ez11 => ?_)
            refine sf_zreturn (by omega) rfl rfl ?_
            refine sf_zreturn (by omega) rfl rfl ?_
            exact hR _ _ I_w s_w (by omega) (by omega) 
        · refine sf_iconst sf_c0 (fun z12 ez12 => ?_)
          refine sf_istore (L' := [(0, .inl (.ref 28)), (1, .inl (.int a_good)), (2, .inl (.int a_zone)), (3, .inl (.int x3)), (4, .inl (.int x4)), (5, .inl (.int x5))]) rfl ?_
          refine sf_can (L' := [(0, .inl (.ref 28)), (1, .inl (.int a_good)), (2, .inl (.int a_zone)), (3, .inl (.int x3)), (4, .inl (.int x4)), (5, .inl (.int x5)), (6, .inl (.int z12))]) rfl ?_
          exact i_34 w x3 x4 x5 z12 I_w s_w (by omega) (by omega) (by omega) (by omega) (by omega)
      · intro w x3 x4 x5 x6 I_w s_w l_x5 u_x5 l_x6 u_x6 hm
        show kh_O_isMadeIn_34 rt xt (ku_O_isMadeIn rt xt n) [(0, .inl (.ref 28)), (1, .inl (.int a_good)), (2, .inl (.int a_zone)), (3, .inl (.int x3)), (4, .inl (.int x4)), (5, .inl (.int x5)), (6, .inl (.int x6))] [] w 0 0
        generalize ku_O_isMadeIn rt xt n = K at i_17 i_34 ⊢
        refine sf_iload rfl ?_
        refine sf_iconst sf_c16 (fun z13 ez13 => ?_)
        refine sf_f2_ge (fun h14 => ?_) (fun h14 => ?_)
        · refine sf_iinc (L' := [(0, .inl (.ref 28)), (1, .inl (.int a_good)), (2, .inl (.int a_zone)), (3, .inl (.int x3)), (4, .inl (.int x4)), (6, .inl (.int x6))]) sf_c1 rfl rfl (by omega) (fun v15 ev15 => ?_)
          refine sf_can (L' := [(0, .inl (.ref 28)), (1, .inl (.int a_good)), (2, .inl (.int a_zone)), (3, .inl (.int x3)), (4, .inl (.int x4)), (5, .inl (.int v15))]) rfl ?_
          exact i_17 w x3 x4 v15 I_w s_w (by omega) (by omega) (by omega)
        · refine sf_iload rfl ?_
          refine sf_iload rfl ?_
          refine sf_call2 rfl rfl rfl ?_
          refine sf_sp (L := [(0, .inl (.int x3)), (1, .inl (.int x6))]) rfl rfl ?_
          refine sf_iload rfl ?_
          refine sf_iload rfl ?_
          refine sf_i2 (fun v16 => ?_)
          refine sf_iconst sf_c1 (fun z17 ez17 => ?_)
          refine sf_iand (n := 1) (by omega) (by decide) (fun v18 lv18 uv18 => ?_)
          refine sf_iconst sf_c1 (fun z19 ez19 => ?_)
          refine sf_f2_eq (fun h20 => ?_) (fun h20 => ?_)
          · refine sf_iconst sf_c1 (fun z21 ez21 => ?_)
            refine sf_zreturn (by omega) rfl rfl ?_
            refine sf_f1_eq (fun h22 => absurd h22 (by omega)) (fun h22 => ?_)
            refine sf_aload rfl ?_
            refine sf_getr I_w rfl rfl ?_
            refine sf_iload rfl ?_
            refine sf_iald I_w rfl (by omega) (fun v23 lv23 uv23 ev23 => ?_)
            clear lv23 uv23
            clear ev23
            refine sf_call1 rfl rfl rfl ?_
            refine sc_I_bitCount I_w  (fun v24 lv24 uv24 => ?_)
            refine sf_iload rfl ?_
            refine sf_f2_eq (fun h26 => ?_) (fun h26 => ?_)
            · refine sf_aload rfl ?_
              refine sf_iload rfl ?_
              refine sf_iload rfl ?_
              refine sf_iload rfl ?_
              refine sf_call4 rfl rfl rfl ?_
              refine sf_rv I_w rfl ?_
              refine sc_O_meetsRule I_w (by omega) (by omega) (by omega) (by omega) (fun v27 w28 Iw28 tw28 lv27 uv27 => ?_)
              have s30 := sf_mt s_w tw28 rfl
              refine sf_f1_eq (fun h31 => ?_) (fun h31 => ?_)
              · refine sf_iinc (L' := [(0, .inl (.ref 28)), (1, .inl (.int a_good)), (2, .inl (.int a_zone)), (3, .inl (.int x3)), (4, .inl (.int x4)), (5, .inl (.int x5))]) sf_c1 rfl rfl (by omega) (fun v32 ev32 => ?_)
                refine sf_can (L' := [(0, .inl (.ref 28)), (1, .inl (.int a_good)), (2, .inl (.int a_zone)), (3, .inl (.int x3)), (4, .inl (.int x4)), (5, .inl (.int x5)), (6, .inl (.int v32))]) rfl ?_
                exact i_34 w28 x3 x4 x5 v32 Iw28 s30 (by omega) (by omega) (by omega) (by omega) (by omega)
              · refine sf_iload rfl ?_
                refine sf_iconst sf_c1 (fun z33 ez33 => ?_)
                refine sf_iload rfl ?_
                refine sf_i2 (fun v34 => ?_)
                refine sf_i2 (fun v35 => ?_)
                refine sf_istore (L' := [(0, .inl (.ref 28)), (1, .inl (.int a_good)), (2, .inl (.int a_zone)), (3, .inl (.int x3)), (5, .inl (.int x5)), (6, .inl (.int x6))]) rfl ?_
                refine sf_iinc (L' := [(4, .inl (.int v35)), (0, .inl (.ref 28)), (1, .inl (.int a_good)), (2, .inl (.int a_zone)), (3, .inl (.int x3)), (5, .inl (.int x5))]) sf_c1 rfl rfl (by omega) (fun v36 ev36 => ?_)
                refine sf_can (L' := [(0, .inl (.ref 28)), (1, .inl (.int a_good)), (2, .inl (.int a_zone)), (3, .inl (.int x3)), (4, .inl (.int v35)), (5, .inl (.int x5)), (6, .inl (.int v36))]) rfl ?_
                exact i_34 w28 x3 v35 x5 v36 Iw28 s30 (by omega) (by omega) (by omega) (by omega) (by omega)
            · refine sf_iinc (L' := [(0, .inl (.ref 28)), (1, .inl (.int a_good)), (2, .inl (.int a_zone)), (3, .inl (.int x3)), (4, .inl (.int x4)), (5, .inl (.int x5))]) sf_c1 rfl rfl (by omega) (fun v37 ev37 => ?_)
              refine sf_can (L' := [(0, .inl (.ref 28)), (1, .inl (.int a_good)), (2, .inl (.int a_zone)), (3, .inl (.int x3)), (4, .inl (.int x4)), (5, .inl (.int x5)), (6, .inl (.int v37))]) rfl ?_
              exact i_34 w x3 x4 x5 v37 I_w s_w (by omega) (by omega) (by omega) (by omega) (by omega)
          · refine sf_iconst sf_c0 (fun z38 ez38 => ?_)
            refine sf_zreturn (by omega) rfl rfl ?_
            refine sf_f1_eq (fun h39 => ?_) (fun h39 => absurd h39 (by omega))
            refine sf_iinc (L' := [(0, .inl (.ref 28)), (1, .inl (.int a_good)), (2, .inl (.int a_zone)), (3, .inl (.int x3)), (4, .inl (.int x4)), (5, .inl (.int x5))]) sf_c1 rfl rfl (by omega) (fun v40 ev40 => ?_)
            refine sf_can (L' := [(0, .inl (.ref 28)), (1, .inl (.int a_good)), (2, .inl (.int a_zone)), (3, .inl (.int x3)), (4, .inl (.int x4)), (5, .inl (.int x5)), (6, .inl (.int v40))]) rfl ?_
            exact i_34 w x3 x4 x5 v40 I_w s_w (by omega) (by omega) (by omega) (by omega) (by omega)
  have hl1 := hl 1000000000000
  obtain ⟨i_17, i_34⟩ := hl1
  clear hl
  refine sf_sp (L := [(0, .inl (.ref 28)), (1, .inl (.int a_good)), (2, .inl (.int a_zone))]) rfl rfl ?_
  generalize ku_O_isMadeIn rt xt 1000000000000 = K at i_17 i_34 ⊢
  refine sf_aload rfl ?_
  refine sf_getr hI0 rfl rfl ?_
  refine sf_iload rfl ?_
  refine sf_iald hI0 rfl (by omega) (fun v41 lv41 uv41 ev41 => ?_)
  clear lv41 uv41
  clear ev41
  refine sf_iconst sf_c1 (fun z42 ez42 => ?_)
  refine sf_iload rfl ?_
  refine sf_i2 (fun v43 => ?_)
  refine sf_i2 (fun v44 => ?_)
  refine sf_istore (L' := [(0, .inl (.ref 28)), (1, .inl (.int a_good)), (2, .inl (.int a_zone))]) rfl ?_
  refine sf_iconst sf_c0 (fun z45 ez45 => ?_)
  refine sf_istore (L' := [(3, .inl (.int v44)), (0, .inl (.ref 28)), (1, .inl (.int a_good)), (2, .inl (.int a_zone))]) rfl ?_
  refine sf_iconst sf_c0 (fun z46 ez46 => ?_)
  refine sf_istore (L' := [(4, .inl (.int z45)), (3, .inl (.int v44)), (0, .inl (.ref 28)), (1, .inl (.int a_good)), (2, .inl (.int a_zone))]) rfl ?_
  refine sf_can (L' := [(0, .inl (.ref 28)), (1, .inl (.int a_good)), (2, .inl (.int a_zone)), (3, .inl (.int v44)), (4, .inl (.int z45)), (5, .inl (.int z46))]) rfl ?_
  exact i_17 w0 v44 z45 z46 hI0 hs0 (by omega) (by omega) (by omega)
def sm_D_isLaterAccepted : List Nat := []
set_option maxRecDepth 100000 in
set_option maxHeartbeats 4000000 in
theorem sc_D_isLaterAccepted {w0 : wq_W} (hI0 : sf_I w0) {rt : Option wq_V → wq_W → Prop} {xt : Nat → wq_W → Prop} {a_declaration : Int32} (p0 : 0 ≤ a_declaration.toInt) (p1 : a_declaration.toInt ≤ 11) (hR : ∀ (r : Int32), 0 ≤ r.toInt → r.toInt ≤ 1 → rt (some (.inl (.int r))) w0) : ks_D_isLaterAccepted [.inl (.ref 35), .inl (.int a_declaration)] w0 rt xt := by
  have hl : ∀ n : Nat, (∀ (x2 : Int32), (0 ≤ x2.toInt) → (x2.toInt ≤ 12) → (12 - x2.toInt < (n : Int)) → ku_D_isLaterAccepted rt xt n 2 [(0, .inl (.ref 35)), (1, .inl (.int a_declaration)), (2, .inl (.int x2))] [] w0 0 0) := by
    intro n
    induction n with
    | zero =>
      refine ?_
      · intros; omega
    | succ n ih =>
      have i_2 := ih
      intro x2 l_x2 u_x2 hm
      show kh_D_isLaterAccepted_2 rt xt (ku_D_isLaterAccepted rt xt n) [(0, .inl (.ref 35)), (1, .inl (.int a_declaration)), (2, .inl (.int x2))] [] w0 0 0
      generalize ku_D_isLaterAccepted rt xt n = K at i_2 ⊢
      refine sf_iload rfl ?_
      refine sf_aload rfl ?_
      refine sf_geti hI0 rfl rfl (fun v1 lv1 uv1 ev1 => ?_)
      refine sf_f2_ge (fun h2 => ?_) (fun h2 => ?_)
      · refine sf_iconst sf_c0 (fun z3 ez3 => ?_)
        refine sf_zreturn (by omega) rfl rfl ?_
        exact hR _ (by omega) (by omega) 
      · refine sf_aload rfl ?_
        refine sf_getr hI0 rfl rfl ?_
        refine sf_iload rfl ?_
        refine sf_zald hI0 rfl (by omega) (fun v4 lv4 uv4 ev4 => ?_)
        refine sf_f1_eq (fun h5 => ?_) (fun h5 => ?_)
        · refine sf_iinc (L' := [(0, .inl (.ref 35)), (1, .inl (.int a_declaration))]) sf_c1 rfl rfl (by omega) (fun v6 ev6 => ?_)
          refine sf_can (L' := [(0, .inl (.ref 35)), (1, .inl (.int a_declaration)), (2, .inl (.int v6))]) rfl ?_
          exact i_2 v6 (by omega) (by omega) (by omega)
        · refine sf_aload rfl ?_
          refine sf_iload rfl ?_
          refine sf_iload rfl ?_
          refine sf_call3 rfl rfl rfl ?_
          refine sf_rv hI0 rfl ?_
          refine sf_sp (L := [(0, .inl (.ref 35)), (1, .inl (.int x2)), (2, .inl (.int a_declaration))]) rfl rfl ?_
          refine sf_aload rfl ?_
          refine sf_getr hI0 rfl rfl ?_
          refine sf_iload rfl ?_
          refine sf_iald hI0 rfl (by omega) (fun v7 lv7 uv7 ev7 => ?_)
          clear lv7 uv7
          clear ev7
          refine sf_aload rfl ?_
          refine sf_getr hI0 rfl rfl ?_
          refine sf_iload rfl ?_
          refine sf_iald hI0 rfl (by omega) (fun v8 lv8 uv8 ev8 => ?_)
          clear lv8 uv8
          clear ev8
          refine sf_f2_eq (fun h9 => ?_) (fun h9 => ?_)
          · refine sf_aload rfl ?_
            refine sf_getr hI0 rfl rfl ?_
            refine sf_iload rfl ?_
            refine sf_iald hI0 rfl (by omega) (fun v10 lv10 uv10 ev10 => ?_)
            clear lv10 uv10
            clear ev10
            refine sf_aload rfl ?_
            refine sf_getr hI0 rfl rfl ?_
            refine sf_iload rfl ?_
            refine sf_iald hI0 rfl (by omega) (fun v11 lv11 uv11 ev11 => ?_)
            clear lv11 uv11
            clear ev11
            refine sf_f2_eq (fun h12 => ?_) (fun h12 => ?_)
            · refine sf_iload rfl ?_
              refine sf_iload rfl ?_
              refine sf_f2_le (fun h13 => ?_) (fun h13 => ?_)
              · refine sf_iconst sf_c0 (fun z14 ez14 => ?_)
                refine sf_zreturn (by omega) rfl rfl ?_
                refine sf_f1_eq (fun h15 => ?_) (fun h15 => absurd h15 (by omega))
                refine sf_iinc (L' := [(0, .inl (.ref 35)), (1, .inl (.int a_declaration))]) sf_c1 rfl rfl (by omega) (fun v16 ev16 => ?_)
                refine sf_can (L' := [(0, .inl (.ref 35)), (1, .inl (.int a_declaration)), (2, .inl (.int v16))]) rfl ?_
                exact i_2 v16 (by omega) (by omega) (by omega)
              · refine sf_iconst sf_c1 (fun z17 ez17 => ?_)
                refine sf_zreturn (by omega) rfl rfl ?_
                refine sf_f1_eq (fun h18 => absurd h18 (by omega)) (fun h18 => ?_)
                refine sf_iconst sf_c1 (fun z19 ez19 => ?_)
                refine sf_zreturn (by omega) rfl rfl ?_
                exact hR _ (by omega) (by omega) 
            · refine sf_aload rfl ?_
              refine sf_getr hI0 rfl rfl ?_
              refine sf_iload rfl ?_
              refine sf_iald hI0 rfl (by omega) (fun v20 lv20 uv20 ev20 => ?_)
              clear lv20 uv20
              clear ev20
              refine sf_aload rfl ?_
              refine sf_getr hI0 rfl rfl ?_
              refine sf_iload rfl ?_
              refine sf_iald hI0 rfl (by omega) (fun v21 lv21 uv21 ev21 => ?_)
              clear lv21 uv21
              clear ev21
              refine sf_f2_le (fun h22 => ?_) (fun h22 => ?_)
              · refine sf_iconst sf_c0 (fun z23 ez23 => ?_)
                refine sf_zreturn (by omega) rfl rfl ?_
                refine sf_f1_eq (fun h24 => ?_) (fun h24 => absurd h24 (by omega))
                refine sf_iinc (L' := [(0, .inl (.ref 35)), (1, .inl (.int a_declaration))]) sf_c1 rfl rfl (by omega) (fun v25 ev25 => ?_)
                refine sf_can (L' := [(0, .inl (.ref 35)), (1, .inl (.int a_declaration)), (2, .inl (.int v25))]) rfl ?_
                exact i_2 v25 (by omega) (by omega) (by omega)
              · refine sf_iconst sf_c1 (fun z26 ez26 => ?_)
                refine sf_zreturn (by omega) rfl rfl ?_
                refine sf_f1_eq (fun h27 => absurd h27 (by omega)) (fun h27 => ?_)
                refine sf_iconst sf_c1 (fun z28 ez28 => ?_)
                refine sf_zreturn (by omega) rfl rfl ?_
                exact hR _ (by omega) (by omega) 
          · refine sf_aload rfl ?_
            refine sf_getr hI0 rfl rfl ?_
            refine sf_iload rfl ?_
            refine sf_iald hI0 rfl (by omega) (fun v29 lv29 uv29 ev29 => ?_)
            clear lv29 uv29
            clear ev29
            refine sf_aload rfl ?_
            refine sf_getr hI0 rfl rfl ?_
            refine sf_iload rfl ?_
            refine sf_iald hI0 rfl (by omega) (fun v30 lv30 uv30 ev30 => ?_)
            clear lv30 uv30
            clear ev30
            refine sf_f2_le (fun h31 => ?_) (fun h31 => ?_)
            · refine sf_iconst sf_c0 (fun z32 ez32 => ?_)
              refine sf_zreturn (by omega) rfl rfl ?_
              refine sf_f1_eq (fun h33 => ?_) (fun h33 => absurd h33 (by omega))
              refine sf_iinc (L' := [(0, .inl (.ref 35)), (1, .inl (.int a_declaration))]) sf_c1 rfl rfl (by omega) (fun v34 ev34 => ?_)
              refine sf_can (L' := [(0, .inl (.ref 35)), (1, .inl (.int a_declaration)), (2, .inl (.int v34))]) rfl ?_
              exact i_2 v34 (by omega) (by omega) (by omega)
            · refine sf_iconst sf_c1 (fun z35 ez35 => ?_)
              refine sf_zreturn (by omega) rfl rfl ?_
              refine sf_f1_eq (fun h36 => absurd h36 (by omega)) (fun h36 => ?_)
              refine sf_iconst sf_c1 (fun z37 ez37 => ?_)
              refine sf_zreturn (by omega) rfl rfl ?_
              exact hR _ (by omega) (by omega) 
  have hl1 := hl 1000000000000
  have i_2 := hl1
  clear hl hl1
  refine sf_sp (L := [(0, .inl (.ref 35)), (1, .inl (.int a_declaration))]) rfl rfl ?_
  generalize ku_D_isLaterAccepted rt xt 1000000000000 = K at i_2 ⊢
  refine sf_iconst sf_c0 (fun z38 ez38 => ?_)
  refine sf_istore (L' := [(0, .inl (.ref 35)), (1, .inl (.int a_declaration))]) rfl ?_
  refine sf_can (L' := [(0, .inl (.ref 35)), (1, .inl (.int a_declaration)), (2, .inl (.int z38))]) rfl ?_
  exact i_2 z38 (by omega) (by omega) (by omega)
def sm_D_dutyOfAll : List Nat := []
set_option maxRecDepth 100000 in
set_option maxHeartbeats 4000000 in
theorem sc_D_dutyOfAll {w0 : wq_W} (hI0 : sf_I w0) {rt : Option wq_V → wq_W → Prop} {xt : Nat → wq_W → Prop} {a_declaration : Int32} (p0 : 0 ≤ a_declaration.toInt) (p1 : a_declaration.toInt ≤ 11) (hR : ∀ (r : Int64), rt (some (.inl (.long r))) w0) : ks_D_dutyOfAll [.inl (.ref 35), .inl (.int a_declaration)] w0 rt xt := by
  have hl : ∀ n : Nat, (∀ (x2 : Int64) (x4 : Int32), (0 ≤ x4.toInt) → (x4.toInt ≤ 4) → (4 - x4.toInt < (n : Int)) → ku_D_dutyOfAll rt xt n 5 [(0, .inl (.ref 35)), (1, .inl (.int a_declaration)), (2, .inl (.long x2)), (4, .inl (.int x4))] [] w0 0 0) := by
    intro n
    induction n with
    | zero =>
      refine ?_
      · intros; omega
    | succ n ih =>
      have i_5 := ih
      intro x2 x4 l_x4 u_x4 hm
      show kh_D_dutyOfAll_5 rt xt (ku_D_dutyOfAll rt xt n) [(0, .inl (.ref 35)), (1, .inl (.int a_declaration)), (2, .inl (.long x2)), (4, .inl (.int x4))] [] w0 0 0
      generalize ku_D_dutyOfAll rt xt n = K at i_5 ⊢
      refine sf_iload rfl ?_
      refine sf_aload rfl ?_
      refine sf_getr hI0 rfl rfl ?_
      refine sf_iload rfl ?_
      refine sf_iald hI0 rfl (by omega) (fun v1 lv1 uv1 ev1 => ?_)
      refine sf_f2_ge (fun h2 => ?_) (fun h2 => ?_)
      · refine sf_lload rfl ?_
        refine sf_lreturn rfl rfl ?_
        exact hR _ 
      · refine sf_lload rfl ?_
        refine sf_aload rfl ?_
        refine sf_getr hI0 rfl rfl ?_
        refine sf_iload rfl ?_
        refine sf_iload rfl ?_
        refine sf_call2 rfl rfl rfl ?_
        refine sf_sp (L := [(0, .inl (.int a_declaration)), (1, .inl (.int x4))]) rfl rfl ?_
        refine sf_iload rfl ?_
        refine sf_iconst sf_c4 (fun z3 ez3 => ?_)
        refine sf_imulr (n := 4) (by omega) (by omega) (fun v4 ev4 => ?_)
        refine sf_iload rfl ?_
        refine sf_iadd (by omega) (fun v5 ev5 => ?_)
        refine sf_ireturn rfl rfl ?_
        refine sf_lald hI0 rfl (by omega) (fun v6 ev6 => ?_)
        clear ev6
        refine sf_l2 (fun v7 => ?_)
        refine sf_lstore (L' := [(0, .inl (.ref 35)), (1, .inl (.int a_declaration)), (4, .inl (.int x4))]) rfl ?_
        refine sf_iinc (L' := [(2, .inl (.long v7)), (0, .inl (.ref 35)), (1, .inl (.int a_declaration))]) sf_c1 rfl rfl (by omega) (fun v8 ev8 => ?_)
        refine sf_can (L' := [(0, .inl (.ref 35)), (1, .inl (.int a_declaration)), (2, .inl (.long v7)), (4, .inl (.int v8))]) rfl ?_
        exact i_5 v7 v8 (by omega) (by omega) (by omega)
  have hl1 := hl 1000000000000
  have i_5 := hl1
  clear hl hl1
  refine sf_sp (L := [(0, .inl (.ref 35)), (1, .inl (.int a_declaration))]) rfl rfl ?_
  generalize ku_D_dutyOfAll rt xt 1000000000000 = K at i_5 ⊢
  refine sf_lconst (by decide : (0 : Int64).toInt = 0) (fun z9 ez9 => ?_)
  refine sf_lstore (L' := [(0, .inl (.ref 35)), (1, .inl (.int a_declaration))]) rfl ?_
  refine sf_iconst sf_c0 (fun z10 ez10 => ?_)
  refine sf_istore (L' := [(2, .inl (.long z9)), (0, .inl (.ref 35)), (1, .inl (.int a_declaration))]) rfl ?_
  refine sf_can (L' := [(0, .inl (.ref 35)), (1, .inl (.int a_declaration)), (2, .inl (.long z9)), (4, .inl (.int z10))]) rfl ?_
  exact i_5 z9 z10 (by omega) (by omega) (by omega)
def sm_L_unitsLeft : List Nat := []
set_option maxRecDepth 100000 in
set_option maxHeartbeats 4000000 in
theorem sc_L_unitsLeft {w0 : wq_W} (hI0 : sf_I w0) {rt : Option wq_V → wq_W → Prop} {xt : Nat → wq_W → Prop} {a_ofGood : Int32} {a_ofHeld : Int32} (p0 : 0 ≤ a_ofHeld.toInt) (p1 : a_ofHeld.toInt ≤ 1) (hR : ∀ (r : Int32), rt (some (.inl (.int r))) w0) : ks_L_unitsLeft [.inl (.ref 60), .inl (.int a_ofGood), .inl (.int a_ofHeld)] w0 rt xt := by
  have hl : ∀ n : Nat, (∀ (x3 : Int32) (x4 : Int32), (0 ≤ x4.toInt) → (x4.toInt ≤ 40) → (40 - x4.toInt < (n : Int)) → ku_L_unitsLeft rt xt n 5 [(0, .inl (.ref 60)), (1, .inl (.int a_ofGood)), (2, .inl (.int a_ofHeld)), (3, .inl (.int x3)), (4, .inl (.int x4))] [] w0 0 0) := by
    intro n
    induction n with
    | zero =>
      refine ?_
      · intros; omega
    | succ n ih =>
      have i_5 := ih
      intro x3 x4 l_x4 u_x4 hm
      show kh_L_unitsLeft_5 rt xt (ku_L_unitsLeft rt xt n) [(0, .inl (.ref 60)), (1, .inl (.int a_ofGood)), (2, .inl (.int a_ofHeld)), (3, .inl (.int x3)), (4, .inl (.int x4))] [] w0 0 0
      generalize ku_L_unitsLeft rt xt n = K at i_5 ⊢
      refine sf_iload rfl ?_
      refine sf_aload rfl ?_
      refine sf_geti hI0 rfl rfl (fun v1 lv1 uv1 ev1 => ?_)
      refine sf_f2_ge (fun h2 => ?_) (fun h2 => ?_)
      · refine sf_iload rfl ?_
        refine sf_ireturn rfl rfl ?_
        exact hR _ 
      · refine sf_aload rfl ?_
        refine sf_getr hI0 rfl rfl ?_
        refine sf_iload rfl ?_
        refine sf_iald hI0 rfl (by omega) (fun v3 lv3 uv3 ev3 => ?_)
        clear lv3 uv3
        clear ev3
        refine sf_iload rfl ?_
        refine sf_f2_eq (fun h4 => ?_) (fun h4 => ?_)
        · refine sf_aload rfl ?_
          refine sf_getr hI0 rfl rfl ?_
          refine sf_iload rfl ?_
          refine sf_zald hI0 rfl (by omega) (fun v5 lv5 uv5 ev5 => ?_)
          clear ev5
          refine sf_iload rfl ?_
          refine sf_f2_eq (fun h6 => ?_) (fun h6 => ?_)
          · refine sf_iload rfl ?_
            refine sf_aload rfl ?_
            refine sf_getr hI0 rfl rfl ?_
            refine sf_iload rfl ?_
            refine sf_iald hI0 rfl (by omega) (fun v7 lv7 uv7 ev7 => ?_)
            refine sf_aload rfl ?_
            refine sf_getr hI0 rfl rfl ?_
            refine sf_iload rfl ?_
            refine sf_iald hI0 rfl (by omega) (fun v8 lv8 uv8 ev8 => ?_)
            clear lv8 uv8
            clear ev8
            refine sf_i2 (fun v9 => ?_)
            refine sf_i2 (fun v10 => ?_)
            refine sf_istore (L' := [(0, .inl (.ref 60)), (1, .inl (.int a_ofGood)), (2, .inl (.int a_ofHeld)), (4, .inl (.int x4))]) rfl ?_
            refine sf_iinc (L' := [(3, .inl (.int v10)), (0, .inl (.ref 60)), (1, .inl (.int a_ofGood)), (2, .inl (.int a_ofHeld))]) sf_c1 rfl rfl (by omega) (fun v11 ev11 => ?_)
            refine sf_can (L' := [(0, .inl (.ref 60)), (1, .inl (.int a_ofGood)), (2, .inl (.int a_ofHeld)), (3, .inl (.int v10)), (4, .inl (.int v11))]) rfl ?_
            exact i_5 v10 v11 (by omega) (by omega) (by omega)
          · refine sf_iinc (L' := [(0, .inl (.ref 60)), (1, .inl (.int a_ofGood)), (2, .inl (.int a_ofHeld)), (3, .inl (.int x3))]) sf_c1 rfl rfl (by omega) (fun v12 ev12 => ?_)
            refine sf_can (L' := [(0, .inl (.ref 60)), (1, .inl (.int a_ofGood)), (2, .inl (.int a_ofHeld)), (3, .inl (.int x3)), (4, .inl (.int v12))]) rfl ?_
            exact i_5 x3 v12 (by omega) (by omega) (by omega)
        · refine sf_iinc (L' := [(0, .inl (.ref 60)), (1, .inl (.int a_ofGood)), (2, .inl (.int a_ofHeld)), (3, .inl (.int x3))]) sf_c1 rfl rfl (by omega) (fun v13 ev13 => ?_)
          refine sf_can (L' := [(0, .inl (.ref 60)), (1, .inl (.int a_ofGood)), (2, .inl (.int a_ofHeld)), (3, .inl (.int x3)), (4, .inl (.int v13))]) rfl ?_
          exact i_5 x3 v13 (by omega) (by omega) (by omega)
  have hl1 := hl 1000000000000
  have i_5 := hl1
  clear hl hl1
  refine sf_sp (L := [(0, .inl (.ref 60)), (1, .inl (.int a_ofGood)), (2, .inl (.int a_ofHeld))]) rfl rfl ?_
  generalize ku_L_unitsLeft rt xt 1000000000000 = K at i_5 ⊢
  refine sf_iconst sf_c0 (fun z14 ez14 => ?_)
  refine sf_istore (L' := [(0, .inl (.ref 60)), (1, .inl (.int a_ofGood)), (2, .inl (.int a_ofHeld))]) rfl ?_
  refine sf_iconst sf_c0 (fun z15 ez15 => ?_)
  refine sf_istore (L' := [(3, .inl (.int z14)), (0, .inl (.ref 60)), (1, .inl (.int a_ofGood)), (2, .inl (.int a_ofHeld))]) rfl ?_
  refine sf_can (L' := [(0, .inl (.ref 60)), (1, .inl (.int a_ofGood)), (2, .inl (.int a_ofHeld)), (3, .inl (.int z14)), (4, .inl (.int z15))]) rfl ?_
  exact i_5 z14 z15 (by omega) (by omega) (by omega)
def sm_L_heldUnitsThatCame : List Nat := []
set_option maxRecDepth 100000 in
set_option maxHeartbeats 4000000 in
theorem sc_L_heldUnitsThatCame {w0 : wq_W} (hI0 : sf_I w0) {rt : Option wq_V → wq_W → Prop} {xt : Nat → wq_W → Prop} {a_ofGood : Int32} {a_cameByWorking : Int32} (p0 : 0 ≤ a_cameByWorking.toInt) (p1 : a_cameByWorking.toInt ≤ 1) (hR : ∀ (r : Int32), rt (some (.inl (.int r))) w0) : ks_L_heldUnitsThatCame [.inl (.ref 60), .inl (.int a_ofGood), .inl (.int a_cameByWorking)] w0 rt xt := by
  have hl : ∀ n : Nat, (∀ (x3 : Int32) (x4 : Int32), (0 ≤ x4.toInt) → (x4.toInt ≤ 40) → (40 - x4.toInt < (n : Int)) → ku_L_heldUnitsThatCame rt xt n 5 [(0, .inl (.ref 60)), (1, .inl (.int a_ofGood)), (2, .inl (.int a_cameByWorking)), (3, .inl (.int x3)), (4, .inl (.int x4))] [] w0 0 0) := by
    intro n
    induction n with
    | zero =>
      refine ?_
      · intros; omega
    | succ n ih =>
      have i_5 := ih
      intro x3 x4 l_x4 u_x4 hm
      show kh_L_heldUnitsThatCame_5 rt xt (ku_L_heldUnitsThatCame rt xt n) [(0, .inl (.ref 60)), (1, .inl (.int a_ofGood)), (2, .inl (.int a_cameByWorking)), (3, .inl (.int x3)), (4, .inl (.int x4))] [] w0 0 0
      generalize ku_L_heldUnitsThatCame rt xt n = K at i_5 ⊢
      refine sf_iload rfl ?_
      refine sf_aload rfl ?_
      refine sf_geti hI0 rfl rfl (fun v1 lv1 uv1 ev1 => ?_)
      refine sf_f2_ge (fun h2 => ?_) (fun h2 => ?_)
      · refine sf_iload rfl ?_
        refine sf_ireturn rfl rfl ?_
        exact hR _ 
      · refine sf_aload rfl ?_
        refine sf_getr hI0 rfl rfl ?_
        refine sf_iload rfl ?_
        refine sf_iald hI0 rfl (by omega) (fun v3 lv3 uv3 ev3 => ?_)
        clear lv3 uv3
        clear ev3
        refine sf_iload rfl ?_
        refine sf_f2_eq (fun h4 => ?_) (fun h4 => ?_)
        · refine sf_aload rfl ?_
          refine sf_getr hI0 rfl rfl ?_
          refine sf_iload rfl ?_
          refine sf_zald hI0 rfl (by omega) (fun v5 lv5 uv5 ev5 => ?_)
          clear ev5
          refine sf_f1_eq (fun h6 => ?_) (fun h6 => ?_)
          · refine sf_iinc (L' := [(0, .inl (.ref 60)), (1, .inl (.int a_ofGood)), (2, .inl (.int a_cameByWorking)), (3, .inl (.int x3))]) sf_c1 rfl rfl (by omega) (fun v7 ev7 => ?_)
            refine sf_can (L' := [(0, .inl (.ref 60)), (1, .inl (.int a_ofGood)), (2, .inl (.int a_cameByWorking)), (3, .inl (.int x3)), (4, .inl (.int v7))]) rfl ?_
            exact i_5 x3 v7 (by omega) (by omega) (by omega)
          · refine sf_aload rfl ?_
            refine sf_getr hI0 rfl rfl ?_
            refine sf_iload rfl ?_
            refine sf_zald hI0 rfl (by omega) (fun v8 lv8 uv8 ev8 => ?_)
            clear ev8
            refine sf_iload rfl ?_
            refine sf_f2_eq (fun h9 => ?_) (fun h9 => ?_)
            · refine sf_iload rfl ?_
              refine sf_aload rfl ?_
              refine sf_getr hI0 rfl rfl ?_
              refine sf_iload rfl ?_
              refine sf_iald hI0 rfl (by omega) (fun v10 lv10 uv10 ev10 => ?_)
              refine sf_i2 (fun v11 => ?_)
              refine sf_istore (L' := [(0, .inl (.ref 60)), (1, .inl (.int a_ofGood)), (2, .inl (.int a_cameByWorking)), (4, .inl (.int x4))]) rfl ?_
              refine sf_iinc (L' := [(3, .inl (.int v11)), (0, .inl (.ref 60)), (1, .inl (.int a_ofGood)), (2, .inl (.int a_cameByWorking))]) sf_c1 rfl rfl (by omega) (fun v12 ev12 => ?_)
              refine sf_can (L' := [(0, .inl (.ref 60)), (1, .inl (.int a_ofGood)), (2, .inl (.int a_cameByWorking)), (3, .inl (.int v11)), (4, .inl (.int v12))]) rfl ?_
              exact i_5 v11 v12 (by omega) (by omega) (by omega)
            · refine sf_iinc (L' := [(0, .inl (.ref 60)), (1, .inl (.int a_ofGood)), (2, .inl (.int a_cameByWorking)), (3, .inl (.int x3))]) sf_c1 rfl rfl (by omega) (fun v13 ev13 => ?_)
              refine sf_can (L' := [(0, .inl (.ref 60)), (1, .inl (.int a_ofGood)), (2, .inl (.int a_cameByWorking)), (3, .inl (.int x3)), (4, .inl (.int v13))]) rfl ?_
              exact i_5 x3 v13 (by omega) (by omega) (by omega)
        · refine sf_iinc (L' := [(0, .inl (.ref 60)), (1, .inl (.int a_ofGood)), (2, .inl (.int a_cameByWorking)), (3, .inl (.int x3))]) sf_c1 rfl rfl (by omega) (fun v14 ev14 => ?_)
          refine sf_can (L' := [(0, .inl (.ref 60)), (1, .inl (.int a_ofGood)), (2, .inl (.int a_cameByWorking)), (3, .inl (.int x3)), (4, .inl (.int v14))]) rfl ?_
          exact i_5 x3 v14 (by omega) (by omega) (by omega)
  have hl1 := hl 1000000000000
  have i_5 := hl1
  clear hl hl1
  refine sf_sp (L := [(0, .inl (.ref 60)), (1, .inl (.int a_ofGood)), (2, .inl (.int a_cameByWorking))]) rfl rfl ?_
  generalize ku_L_heldUnitsThatCame rt xt 1000000000000 = K at i_5 ⊢
  refine sf_iconst sf_c0 (fun z15 ez15 => ?_)
  refine sf_istore (L' := [(0, .inl (.ref 60)), (1, .inl (.int a_ofGood)), (2, .inl (.int a_cameByWorking))]) rfl ?_
  refine sf_iconst sf_c0 (fun z16 ez16 => ?_)
  refine sf_istore (L' := [(3, .inl (.int z15)), (0, .inl (.ref 60)), (1, .inl (.int a_ofGood)), (2, .inl (.int a_cameByWorking))]) rfl ?_
  refine sf_can (L' := [(0, .inl (.ref 60)), (1, .inl (.int a_ofGood)), (2, .inl (.int a_cameByWorking)), (3, .inl (.int z15)), (4, .inl (.int z16))]) rfl ?_
  exact i_5 z15 z16 (by omega) (by omega) (by omega)
def sm_L_takeUnits : List Nat := [63]
set_option maxRecDepth 100000 in
set_option maxHeartbeats 4000000 in
theorem sc_L_takeUnits {w0 : wq_W} (hI0 : sf_I w0) {rt : Option wq_V → wq_W → Prop} {xt : Nat → wq_W → Prop} {a_ofGood : Int32} {a_wanted : Int32} {a_ofHeld : Int32} (p0 : 0 ≤ a_ofHeld.toInt) (p1 : a_ofHeld.toInt ≤ 1) (hR : ∀ (r : Int64) (w : wq_W), sf_I w → sf_m sm_L_takeUnits w0 w → rt (some (.inl (.long r))) w) : ks_L_takeUnits [.inl (.ref 60), .inl (.int a_ofGood), .inl (.int a_wanted), .inl (.int a_ofHeld)] w0 rt xt := by
  have hs0 : sf_m sm_L_takeUnits w0 w0 := sf_m0
  have hl : ∀ n : Nat, (∀ (w : wq_W) (x4 : Int64) (x6 : Int32) (x7 : Int32), (sf_I w) → (sf_m sm_L_takeUnits w0 w) → (0 ≤ x7.toInt) → (x7.toInt ≤ 40) → (40 - x7.toInt < (n : Int)) → ku_L_takeUnits rt xt n 9 [(0, .inl (.ref 60)), (1, .inl (.int a_ofGood)), (3, .inl (.int a_ofHeld)), (4, .inl (.long x4)), (6, .inl (.int x6)), (7, .inl (.int x7))] [] w 0 0) := by
    intro n
    induction n with
    | zero =>
      refine ?_
      · intros; omega
    | succ n ih =>
      have i_9 := ih
      intro w x4 x6 x7 I_w s_w l_x7 u_x7 hm
      show kh_L_takeUnits_9 rt xt (ku_L_takeUnits rt xt n) [(0, .inl (.ref 60)), (1, .inl (.int a_ofGood)), (3, .inl (.int a_ofHeld)), (4, .inl (.long x4)), (6, .inl (.int x6)), (7, .inl (.int x7))] [] w 0 0
      generalize ku_L_takeUnits rt xt n = K at i_9 ⊢
      refine sf_iload rfl ?_
      refine sf_aload rfl ?_
      refine sf_geti I_w rfl rfl (fun v1 lv1 uv1 ev1 => ?_)
      rw [sf_mf s_w (p := 60) (j := 0) rfl] at ev1
      refine sf_f2_ge (fun h2 => ?_) (fun h2 => ?_)
      · refine sf_lload rfl ?_
        refine sf_lreturn rfl rfl ?_
        exact hR _ _ I_w s_w 
      · refine sf_iload rfl ?_
        refine sf_f1_le (fun h3 => ?_) (fun h3 => ?_)
        · refine sf_lload rfl ?_
          refine sf_lreturn rfl rfl ?_
          exact hR _ _ I_w s_w 
        · refine sf_aload rfl ?_
          refine sf_getr I_w rfl rfl ?_
          refine sf_iload rfl ?_
          refine sf_iald I_w rfl (by omega) (fun v4 lv4 uv4 ev4 => ?_)
          clear lv4 uv4
          clear ev4
          refine sf_iload rfl ?_
          refine sf_f2_eq (fun h5 => ?_) (fun h5 => ?_)
          · refine sf_aload rfl ?_
            refine sf_getr I_w rfl rfl ?_
            refine sf_iload rfl ?_
            refine sf_zald I_w rfl (by omega) (fun v6 lv6 uv6 ev6 => ?_)
            clear ev6
            refine sf_iload rfl ?_
            refine sf_f2_eq (fun h7 => ?_) (fun h7 => ?_)
            · refine sf_iload rfl ?_
              refine sf_aload rfl ?_
              refine sf_getr I_w rfl rfl ?_
              refine sf_iload rfl ?_
              refine sf_iald I_w rfl (by omega) (fun v8 lv8 uv8 ev8 => ?_)
              rw [sf_ma s_w (p := 62) rfl] at ev8
              refine sf_aload rfl ?_
              refine sf_getr I_w rfl rfl ?_
              refine sf_iload rfl ?_
              refine sf_iald I_w rfl (by omega) (fun v9 lv9 uv9 ev9 => ?_)
              clear lv9 uv9
              clear ev9
              refine sf_i2 (fun v10 => ?_)
              refine sf_m2 rfl rfl rfl (fun v11 => ?_)
              refine sf_istore (L' := [(0, .inl (.ref 60)), (1, .inl (.int a_ofGood)), (3, .inl (.int a_ofHeld)), (4, .inl (.long x4)), (6, .inl (.int x6)), (7, .inl (.int x7))]) rfl ?_
              refine sf_aload rfl ?_
              refine sf_iload rfl ?_
              refine sf_call2 rfl rfl rfl ?_
              refine sf_rv I_w rfl ?_
              refine sf_sp (L := [(0, .inl (.ref 60)), (1, .inl (.int x7))]) rfl rfl ?_
              refine sf_aload rfl ?_
              refine sf_getr I_w rfl rfl ?_
              refine sf_iload rfl ?_
              refine sf_iald I_w rfl (by omega) (fun v12 lv12 uv12 ev12 => ?_)
              rw [sf_ma s_w (p := 62) rfl] at ev12
              refine sf_f1_gt (fun h13 => ?_) (fun h13 => ?_)
              · refine sf_aload rfl ?_
                refine sf_getr I_w rfl rfl ?_
                refine sf_iload rfl ?_
                refine sf_lald I_w rfl (by omega) (fun v14 ev14 => ?_)
                clear ev14
                refine sf_aload rfl ?_
                refine sf_getr I_w rfl rfl ?_
                refine sf_iload rfl ?_
                refine sf_iald I_w rfl (by omega) (fun v15 lv15 uv15 ev15 => ?_)
                clear lv15 uv15
                clear ev15
                refine sf_i2lb (fun v16 ev16 lv16 uv16 => ?_)
                refine sf_l2 (fun v17 => ?_)
                refine sf_aload rfl ?_
                refine sf_getr I_w rfl rfl ?_
                refine sf_iload rfl ?_
                refine sf_iald I_w rfl (by omega) (fun v18 lv18 uv18 ev18 => ?_)
                rw [sf_ma s_w (p := 62) rfl] at ev18
                refine sf_i2lb (fun v19 ev19 lv19 uv19 => ?_)
                refine sf_l2d (by omega) (fun v20 => ?_)
                refine sf_lreturn rfl rfl ?_
                refine sf_lstore (L' := [(8, .inl (.int v11)), (0, .inl (.ref 60)), (1, .inl (.int a_ofGood)), (3, .inl (.int a_ofHeld)), (4, .inl (.long x4)), (6, .inl (.int x6)), (7, .inl (.int x7))]) rfl ?_
                refine sf_aload rfl ?_
                refine sf_getr I_w rfl rfl ?_
                refine sf_iload rfl ?_
                refine sf_dup2 rfl rfl ?_
                refine sf_iald I_w rfl (by omega) (fun v21 lv21 uv21 ev21 => ?_)
                clear lv21 uv21
                clear ev21
                refine sf_iload rfl ?_
                refine sf_i2 (fun v22 => ?_)
                refine sf_iast I_w s_w rfl (by omega) (sf_bd _) rfl rfl (fun w23 Iw23 sw23 kw23 uw23 => ?_)
                clear kw23 uw23
                refine sf_iload rfl ?_
                refine sf_iload rfl ?_
                refine sf_i2 (fun v24 => ?_)
                refine sf_istore (L' := [(9, .inl (.long v20)), (8, .inl (.int v11)), (0, .inl (.ref 60)), (1, .inl (.int a_ofGood)), (3, .inl (.int a_ofHeld)), (4, .inl (.long x4)), (7, .inl (.int x7))]) rfl ?_
                refine sf_lload rfl ?_
                refine sf_aload rfl ?_
                refine sf_iload rfl ?_
                refine sf_call2 rfl rfl rfl ?_
                refine sf_rv Iw23 rfl ?_
                refine sf_sp (L := [(0, .inl (.ref 60)), (1, .inl (.int x7))]) rfl rfl ?_
                refine sf_aload rfl ?_
                refine sf_getr Iw23 rfl rfl ?_
                refine sf_iload rfl ?_
                refine sf_iald Iw23 rfl (by omega) (fun v25 lv25 uv25 ev25 => ?_)
                rw [sf_ma sw23 (p := 62) rfl] at ev25
                refine sf_f1_gt (fun h26 => ?_) (fun h26 => ?_)
                · refine sf_aload rfl ?_
                  refine sf_getr Iw23 rfl rfl ?_
                  refine sf_iload rfl ?_
                  refine sf_lald Iw23 rfl (by omega) (fun v27 ev27 => ?_)
                  clear ev27
                  refine sf_aload rfl ?_
                  refine sf_getr Iw23 rfl rfl ?_
                  refine sf_iload rfl ?_
                  refine sf_iald Iw23 rfl (by omega) (fun v28 lv28 uv28 ev28 => ?_)
                  clear lv28 uv28
                  clear ev28
                  refine sf_i2lb (fun v29 ev29 lv29 uv29 => ?_)
                  refine sf_l2 (fun v30 => ?_)
                  refine sf_aload rfl ?_
                  refine sf_getr Iw23 rfl rfl ?_
                  refine sf_iload rfl ?_
                  refine sf_iald Iw23 rfl (by omega) (fun v31 lv31 uv31 ev31 => ?_)
                  rw [sf_ma sw23 (p := 62) rfl] at ev31
                  refine sf_i2lb (fun v32 ev32 lv32 uv32 => ?_)
                  refine sf_l2d (by omega) (fun v33 => ?_)
                  refine sf_lreturn rfl rfl ?_
                  refine sf_lload rfl ?_
                  refine sf_l2 (fun v34 => ?_)
                  refine sf_l2 (fun v35 => ?_)
                  refine sf_lstore (L' := [(6, .inl (.int v24)), (9, .inl (.long v20)), (8, .inl (.int v11)), (0, .inl (.ref 60)), (1, .inl (.int a_ofGood)), (3, .inl (.int a_ofHeld)), (7, .inl (.int x7))]) rfl ?_
                  refine sf_iinc (L' := [(4, .inl (.long v35)), (6, .inl (.int v24)), (9, .inl (.long v20)), (8, .inl (.int v11)), (0, .inl (.ref 60)), (1, .inl (.int a_ofGood)), (3, .inl (.int a_ofHeld))]) sf_c1 rfl rfl (by omega) (fun v36 ev36 => ?_)
                  refine sf_can (L' := [(0, .inl (.ref 60)), (1, .inl (.int a_ofGood)), (3, .inl (.int a_ofHeld)), (4, .inl (.long v35)), (6, .inl (.int v24)), (7, .inl (.int v36))]) rfl ?_
                  exact i_9 w23 v35 v24 v36 Iw23 sw23 (by omega) (by omega) (by omega)
                · refine sf_lconst (by decide : (0 : Int64).toInt = 0) (fun z37 ez37 => ?_)
                  refine sf_lreturn rfl rfl ?_
                  refine sf_lload rfl ?_
                  refine sf_l2 (fun v38 => ?_)
                  refine sf_l2 (fun v39 => ?_)
                  refine sf_lstore (L' := [(6, .inl (.int v24)), (9, .inl (.long v20)), (8, .inl (.int v11)), (0, .inl (.ref 60)), (1, .inl (.int a_ofGood)), (3, .inl (.int a_ofHeld)), (7, .inl (.int x7))]) rfl ?_
                  refine sf_iinc (L' := [(4, .inl (.long v39)), (6, .inl (.int v24)), (9, .inl (.long v20)), (8, .inl (.int v11)), (0, .inl (.ref 60)), (1, .inl (.int a_ofGood)), (3, .inl (.int a_ofHeld))]) sf_c1 rfl rfl (by omega) (fun v40 ev40 => ?_)
                  refine sf_can (L' := [(0, .inl (.ref 60)), (1, .inl (.int a_ofGood)), (3, .inl (.int a_ofHeld)), (4, .inl (.long v39)), (6, .inl (.int v24)), (7, .inl (.int v40))]) rfl ?_
                  exact i_9 w23 v39 v24 v40 Iw23 sw23 (by omega) (by omega) (by omega)
              · refine sf_lconst (by decide : (0 : Int64).toInt = 0) (fun z41 ez41 => ?_)
                refine sf_lreturn rfl rfl ?_
                refine sf_lstore (L' := [(8, .inl (.int v11)), (0, .inl (.ref 60)), (1, .inl (.int a_ofGood)), (3, .inl (.int a_ofHeld)), (4, .inl (.long x4)), (6, .inl (.int x6)), (7, .inl (.int x7))]) rfl ?_
                refine sf_aload rfl ?_
                refine sf_getr I_w rfl rfl ?_
                refine sf_iload rfl ?_
                refine sf_dup2 rfl rfl ?_
                refine sf_iald I_w rfl (by omega) (fun v42 lv42 uv42 ev42 => ?_)
                clear lv42 uv42
                clear ev42
                refine sf_iload rfl ?_
                refine sf_i2 (fun v43 => ?_)
                refine sf_iast I_w s_w rfl (by omega) (sf_bd _) rfl rfl (fun w44 Iw44 sw44 kw44 uw44 => ?_)
                clear kw44 uw44
                refine sf_iload rfl ?_
                refine sf_iload rfl ?_
                refine sf_i2 (fun v45 => ?_)
                refine sf_istore (L' := [(9, .inl (.long z41)), (8, .inl (.int v11)), (0, .inl (.ref 60)), (1, .inl (.int a_ofGood)), (3, .inl (.int a_ofHeld)), (4, .inl (.long x4)), (7, .inl (.int x7))]) rfl ?_
                refine sf_lload rfl ?_
                refine sf_aload rfl ?_
                refine sf_iload rfl ?_
                refine sf_call2 rfl rfl rfl ?_
                refine sf_rv Iw44 rfl ?_
                refine sf_sp (L := [(0, .inl (.ref 60)), (1, .inl (.int x7))]) rfl rfl ?_
                refine sf_aload rfl ?_
                refine sf_getr Iw44 rfl rfl ?_
                refine sf_iload rfl ?_
                refine sf_iald Iw44 rfl (by omega) (fun v46 lv46 uv46 ev46 => ?_)
                rw [sf_ma sw44 (p := 62) rfl] at ev46
                refine sf_f1_gt (fun h47 => ?_) (fun h47 => ?_)
                · refine sf_aload rfl ?_
                  refine sf_getr Iw44 rfl rfl ?_
                  refine sf_iload rfl ?_
                  refine sf_lald Iw44 rfl (by omega) (fun v48 ev48 => ?_)
                  clear ev48
                  refine sf_aload rfl ?_
                  refine sf_getr Iw44 rfl rfl ?_
                  refine sf_iload rfl ?_
                  refine sf_iald Iw44 rfl (by omega) (fun v49 lv49 uv49 ev49 => ?_)
                  clear lv49 uv49
                  clear ev49
                  refine sf_i2lb (fun v50 ev50 lv50 uv50 => ?_)
                  refine sf_l2 (fun v51 => ?_)
                  refine sf_aload rfl ?_
                  refine sf_getr Iw44 rfl rfl ?_
                  refine sf_iload rfl ?_
                  refine sf_iald Iw44 rfl (by omega) (fun v52 lv52 uv52 ev52 => ?_)
                  rw [sf_ma sw44 (p := 62) rfl] at ev52
                  refine sf_i2lb (fun v53 ev53 lv53 uv53 => ?_)
                  refine sf_l2d (by omega) (fun v54 => ?_)
                  refine sf_lreturn rfl rfl ?_
                  refine sf_lload rfl ?_
                  refine sf_l2 (fun v55 => ?_)
                  refine sf_l2 (fun v56 => ?_)
                  refine sf_lstore (L' := [(6, .inl (.int v45)), (9, .inl (.long z41)), (8, .inl (.int v11)), (0, .inl (.ref 60)), (1, .inl (.int a_ofGood)), (3, .inl (.int a_ofHeld)), (7, .inl (.int x7))]) rfl ?_
                  refine sf_iinc (L' := [(4, .inl (.long v56)), (6, .inl (.int v45)), (9, .inl (.long z41)), (8, .inl (.int v11)), (0, .inl (.ref 60)), (1, .inl (.int a_ofGood)), (3, .inl (.int a_ofHeld))]) sf_c1 rfl rfl (by omega) (fun v57 ev57 => ?_)
                  refine sf_can (L' := [(0, .inl (.ref 60)), (1, .inl (.int a_ofGood)), (3, .inl (.int a_ofHeld)), (4, .inl (.long v56)), (6, .inl (.int v45)), (7, .inl (.int v57))]) rfl ?_
                  exact i_9 w44 v56 v45 v57 Iw44 sw44 (by omega) (by omega) (by omega)
                · refine sf_lconst (by decide : (0 : Int64).toInt = 0) (fun z58 ez58 => ?_)
                  refine sf_lreturn rfl rfl ?_
                  refine sf_lload rfl ?_
                  refine sf_l2 (fun v59 => ?_)
                  refine sf_l2 (fun v60 => ?_)
                  refine sf_lstore (L' := [(6, .inl (.int v45)), (9, .inl (.long z41)), (8, .inl (.int v11)), (0, .inl (.ref 60)), (1, .inl (.int a_ofGood)), (3, .inl (.int a_ofHeld)), (7, .inl (.int x7))]) rfl ?_
                  refine sf_iinc (L' := [(4, .inl (.long v60)), (6, .inl (.int v45)), (9, .inl (.long z41)), (8, .inl (.int v11)), (0, .inl (.ref 60)), (1, .inl (.int a_ofGood)), (3, .inl (.int a_ofHeld))]) sf_c1 rfl rfl (by omega) (fun v61 ev61 => ?_)
                  refine sf_can (L' := [(0, .inl (.ref 60)), (1, .inl (.int a_ofGood)), (3, .inl (.int a_ofHeld)), (4, .inl (.long v60)), (6, .inl (.int v45)), (7, .inl (.int v61))]) rfl ?_
                  exact i_9 w44 v60 v45 v61 Iw44 sw44 (by omega) (by omega) (by omega)
            · refine sf_iinc (L' := [(0, .inl (.ref 60)), (1, .inl (.int a_ofGood)), (3, .inl (.int a_ofHeld)), (4, .inl (.long x4)), (6, .inl (.int x6))]) sf_c1 rfl rfl (by omega) (fun v62 ev62 => ?_)
              refine sf_can (L' := [(0, .inl (.ref 60)), (1, .inl (.int a_ofGood)), (3, .inl (.int a_ofHeld)), (4, .inl (.long x4)), (6, .inl (.int x6)), (7, .inl (.int v62))]) rfl ?_
              exact i_9 w x4 x6 v62 I_w s_w (by omega) (by omega) (by omega)
          · refine sf_iinc (L' := [(0, .inl (.ref 60)), (1, .inl (.int a_ofGood)), (3, .inl (.int a_ofHeld)), (4, .inl (.long x4)), (6, .inl (.int x6))]) sf_c1 rfl rfl (by omega) (fun v63 ev63 => ?_)
            refine sf_can (L' := [(0, .inl (.ref 60)), (1, .inl (.int a_ofGood)), (3, .inl (.int a_ofHeld)), (4, .inl (.long x4)), (6, .inl (.int x6)), (7, .inl (.int v63))]) rfl ?_
            exact i_9 w x4 x6 v63 I_w s_w (by omega) (by omega) (by omega)
  have hl1 := hl 1000000000000
  have i_9 := hl1
  clear hl hl1
  refine sf_sp (L := [(0, .inl (.ref 60)), (1, .inl (.int a_ofGood)), (2, .inl (.int a_wanted)), (3, .inl (.int a_ofHeld))]) rfl rfl ?_
  generalize ku_L_takeUnits rt xt 1000000000000 = K at i_9 ⊢
  refine sf_lconst (by decide : (0 : Int64).toInt = 0) (fun z64 ez64 => ?_)
  refine sf_lstore (L' := [(0, .inl (.ref 60)), (1, .inl (.int a_ofGood)), (2, .inl (.int a_wanted)), (3, .inl (.int a_ofHeld))]) rfl ?_
  refine sf_iload rfl ?_
  refine sf_istore (L' := [(4, .inl (.long z64)), (0, .inl (.ref 60)), (1, .inl (.int a_ofGood)), (2, .inl (.int a_wanted)), (3, .inl (.int a_ofHeld))]) rfl ?_
  refine sf_iconst sf_c0 (fun z65 ez65 => ?_)
  refine sf_istore (L' := [(6, .inl (.int a_wanted)), (4, .inl (.long z64)), (0, .inl (.ref 60)), (1, .inl (.int a_ofGood)), (2, .inl (.int a_wanted)), (3, .inl (.int a_ofHeld))]) rfl ?_
  refine sf_can (L' := [(0, .inl (.ref 60)), (1, .inl (.int a_ofGood)), (3, .inl (.int a_ofHeld)), (4, .inl (.long z64)), (6, .inl (.int a_wanted)), (7, .inl (.int z65))]) rfl ?_
  exact i_9 w0 z64 a_wanted z65 hI0 hs0 (by omega) (by omega) (by omega)
