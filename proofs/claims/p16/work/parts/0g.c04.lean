def sm_A_book : List Nat := [22, 48, 49, 50]
set_option maxRecDepth 100000 in
set_option maxHeartbeats 4000000 in
theorem sc_A_book {w0 : wq_W} (hI0 : sf_I w0) {rt : Option wq_V → wq_W → Prop} {xt : Nat → wq_W → Prop} {a_declaration : Int32} (p0 : 0 ≤ a_declaration.toInt) (p1 : a_declaration.toInt ≤ 11) (hR : ∀ (w : wq_W), sf_I w → sf_m sm_A_book w0 w → rt none w) : ks_A_book [.inl (.ref 51), .inl (.int a_declaration)] w0 rt xt := by
  have hs0 : sf_m sm_A_book w0 w0 := sf_m0
  have hl : ∀ n : Nat, (∀ (w : wq_W) (x2 : Int32), (sf_I w) → (sf_m sm_A_book w0 w) → (0 ≤ x2.toInt) → (x2.toInt ≤ 4) → (4 - x2.toInt < (n : Int)) → ku_A_book rt xt n 2 [(0, .inl (.ref 51)), (1, .inl (.int a_declaration)), (2, .inl (.int x2))] [] w 0 0) := by
    intro n
    induction n with
    | zero =>
      refine ?_
      · intros; omega
    | succ n ih =>
      have i_2 := ih
      intro w x2 I_w s_w l_x2 u_x2 hm
      show kh_A_book_2 rt xt (ku_A_book rt xt n) [(0, .inl (.ref 51)), (1, .inl (.int a_declaration)), (2, .inl (.int x2))] [] w 0 0
      generalize ku_A_book rt xt n = K at i_2 ⊢
      refine sf_iload rfl ?_
      refine sf_aload rfl ?_
      refine sf_getr I_w rfl rfl ?_
      refine sf_getr I_w rfl rfl ?_
      refine sf_iload rfl ?_
      refine sf_iald I_w rfl (by omega) (fun v1 lv1 uv1 ev1 => ?_)
      rw [sf_ma s_w (p := 38) rfl] at ev1
      refine sf_f2_ge (fun h2 => ?_) (fun h2 => ?_)
      · refine sf_aload rfl ?_
        refine sf_getr I_w rfl rfl ?_
        refine sf_iconst sf_c0 (fun z3 ez3 => ?_)
        refine sf_aload rfl ?_
        refine sf_getr I_w rfl rfl ?_
        refine sf_getr I_w rfl rfl ?_
        refine sf_iconst sf_c0 (fun z4 ez4 => ?_)
        refine sf_iconst sf_c8 (fun z5 ez5 => ?_)
        refine sf_cpy I_w s_w rfl rfl (by decide) (by omega) (by omega) (by omega) rfl rfl rfl (by decide) (fun w6 Iw6 sw6 kw6 uw6 => ?_)
        clear kw6 uw6
        refine sf_vreturn rfl rfl ?_
        exact hR _ Iw6 sw6 
      · refine sf_iload rfl ?_
        refine sf_iload rfl ?_
        refine sf_call2 rfl rfl rfl ?_
        refine sf_sp (L := [(0, .inl (.int a_declaration)), (1, .inl (.int x2))]) rfl rfl ?_
        refine sf_iload rfl ?_
        refine sf_iconst sf_c4 (fun z7 ez7 => ?_)
        refine sf_imulr (n := 4) (by omega) (by omega) (fun v8 ev8 => ?_)
        refine sf_iload rfl ?_
        refine sf_iadd (by omega) (fun v9 ev9 => ?_)
        refine sf_ireturn rfl rfl ?_
        refine sf_istore (L' := [(0, .inl (.ref 51)), (1, .inl (.int a_declaration)), (2, .inl (.int x2))]) rfl ?_
        refine sf_aload rfl ?_
        refine sf_getr I_w rfl rfl ?_
        refine sf_getr I_w rfl rfl ?_
        refine sf_iload rfl ?_
        refine sf_aload rfl ?_
        refine sf_getr I_w rfl rfl ?_
        refine sf_iload rfl ?_
        refine sf_iald I_w rfl (by omega) (fun v10 lv10 uv10 ev10 => ?_)
        clear ev10
        refine sf_iast I_w s_w rfl (by omega) (by omega) rfl rfl (fun w11 Iw11 sw11 kw11 uw11 => ?_)
        clear kw11 uw11
        refine sf_aload rfl ?_
        refine sf_getr Iw11 rfl rfl ?_
        refine sf_getr Iw11 rfl rfl ?_
        refine sf_iload rfl ?_
        refine sf_aload rfl ?_
        refine sf_getr Iw11 rfl rfl ?_
        refine sf_iload rfl ?_
        refine sf_iald Iw11 rfl (by omega) (fun v12 lv12 uv12 ev12 => ?_)
        clear lv12 uv12
        clear ev12
        refine sf_iast Iw11 sw11 rfl (by omega) (sf_bd _) rfl rfl (fun w13 Iw13 sw13 kw13 uw13 => ?_)
        clear kw13 uw13
        refine sf_aload rfl ?_
        refine sf_getr Iw13 rfl rfl ?_
        refine sf_getr Iw13 rfl rfl ?_
        refine sf_iload rfl ?_
        refine sf_aload rfl ?_
        refine sf_getr Iw13 rfl rfl ?_
        refine sf_iload rfl ?_
        refine sf_lald Iw13 rfl (by omega) (fun v14 ev14 => ?_)
        clear ev14
        refine sf_last Iw13 sw13 rfl (by omega) rfl rfl (fun w15 Iw15 sw15 kw15 uw15 => ?_)
        clear kw15 uw15
        refine sf_iinc (L' := [(3, .inl (.int v9)), (0, .inl (.ref 51)), (1, .inl (.int a_declaration))]) sf_c1 rfl rfl (by omega) (fun v16 ev16 => ?_)
        refine sf_can (L' := [(0, .inl (.ref 51)), (1, .inl (.int a_declaration)), (2, .inl (.int v16))]) rfl ?_
        exact i_2 w15 v16 Iw15 sw15 (by omega) (by omega) (by omega)
  have hl1 := hl 1000000000000
  have i_2 := hl1
  clear hl hl1
  refine sf_sp (L := [(0, .inl (.ref 51)), (1, .inl (.int a_declaration))]) rfl rfl ?_
  generalize ku_A_book rt xt 1000000000000 = K at i_2 ⊢
  refine sf_iconst sf_c0 (fun z17 ez17 => ?_)
  refine sf_istore (L' := [(0, .inl (.ref 51)), (1, .inl (.int a_declaration))]) rfl ?_
  refine sf_can (L' := [(0, .inl (.ref 51)), (1, .inl (.int a_declaration)), (2, .inl (.int z17))]) rfl ?_
  exact i_2 w0 z17 hI0 hs0 (by omega) (by omega) (by omega)
def sm_A_canAssess : List Nat := [11, 12, 55, 56]
set_option maxRecDepth 100000 in
set_option maxHeartbeats 4000000 in
theorem sc_A_canAssess {w0 : wq_W} (hI0 : sf_I w0) {rt : Option wq_V → wq_W → Prop} {xt : Nat → wq_W → Prop} {a_declaration : Int32} (p0 : 0 ≤ a_declaration.toInt) (p1 : a_declaration.toInt ≤ 11) (hR0 : ∀ (r : Int32) (w : wq_W), sf_I w → sf_m sm_A_canAssess w0 w → r.toInt = 0 → rt (some (.inl (.int r))) w) (hR1 : ∀ (r : Int32) (w : wq_W), sf_I w → sf_m sm_A_canAssess w0 w → r.toInt = 1 → (∀ k : Nat, (k : Int) < (sf_a w 38 a_declaration.toInt.toNat).toInt → 0 ≤ (sf_a w 55 k).toInt) → rt (some (.inl (.int r))) w) : ks_A_canAssess [.inl (.ref 51), .inl (.int a_declaration)] w0 rt xt := by
  have hs0 : sf_m sm_A_canAssess w0 w0 := sf_m0
  have hl : ∀ n : Nat, (∀ (w : wq_W) (x2 : Int32) (x3 : Int32) (x4 : Int32), (sf_I w) → (sf_m sm_A_canAssess w0 w) → (0 ≤ x2.toInt) → (x2.toInt ≤ 4) → (0 ≤ x4.toInt) → (x4.toInt ≤ 4) → (x2.toInt = (sf_a w0 38 a_declaration.toInt.toNat).toInt) → (∀ k : Nat, (k : Int) < x4.toInt → 0 ≤ (sf_a w 55 k).toInt) → (4 - x4.toInt < (n : Int)) → ku_A_canAssess rt xt n 23 [(0, .inl (.ref 51)), (1, .inl (.int a_declaration)), (2, .inl (.int x2)), (3, .inl (.int x3)), (4, .inl (.int x4))] [] w 0 0) := by
    intro n
    induction n with
    | zero =>
      refine ?_
      · intros; omega
    | succ n ih =>
      have i_23 := ih
      intro w x2 x3 x4 I_w s_w l_x2 u_x2 l_x4 u_x4 f_0 f_1 hm
      show kh_A_canAssess_23 rt xt (ku_A_canAssess rt xt n) [(0, .inl (.ref 51)), (1, .inl (.int a_declaration)), (2, .inl (.int x2)), (3, .inl (.int x3)), (4, .inl (.int x4))] [] w 0 0
      generalize ku_A_canAssess rt xt n = K at i_23 ⊢
      refine sf_iload rfl ?_
      refine sf_iload rfl ?_
      refine sf_f2_ge (fun h1 => ?_) (fun h1 => ?_)
      · refine sf_iload rfl ?_
        refine sf_f1_le (fun h2 => ?_) (fun h2 => ?_)
        · refine sf_iconst sf_c0 (fun z3 ez3 => ?_)
          refine sf_zreturn (by omega) rfl rfl ?_
          exact hR0 _ _ I_w s_w (by omega) 
        · refine sf_iconst sf_c1 (fun z4 ez4 => ?_)
          refine sf_zreturn (by omega) rfl rfl ?_
          exact hR1 _ _ I_w s_w (by omega) (by rw [sf_ma s_w (p := 38) rfl]; intro k hk; exact f_1 k (by omega))
      · refine sf_iload rfl ?_
        refine sf_iload rfl ?_
        refine sf_call2 rfl rfl rfl ?_
        refine sf_sp (L := [(0, .inl (.int a_declaration)), (1, .inl (.int x4))]) rfl rfl ?_
        refine sf_iload rfl ?_
        refine sf_iconst sf_c4 (fun z5 ez5 => ?_)
        refine sf_imulr (n := 4) (by omega) (by omega) (fun v6 ev6 => ?_)
        refine sf_iload rfl ?_
        refine sf_iadd (by omega) (fun v7 ev7 => ?_)
        refine sf_ireturn rfl rfl ?_
        refine sf_istore (L' := [(0, .inl (.ref 51)), (1, .inl (.int a_declaration)), (2, .inl (.int x2)), (3, .inl (.int x3)), (4, .inl (.int x4))]) rfl ?_
        refine sf_aload rfl ?_
        refine sf_getr I_w rfl rfl ?_
        refine sf_getr I_w rfl rfl ?_
        refine sf_iload rfl ?_
        refine sf_iald I_w rfl (by omega) (fun v8 lv8 uv8 ev8 => ?_)
        clear lv8 uv8
        clear ev8
        refine sf_istore (L' := [(5, .inl (.int v7)), (0, .inl (.ref 51)), (1, .inl (.int a_declaration)), (2, .inl (.int x2)), (3, .inl (.int x3)), (4, .inl (.int x4))]) rfl ?_
        refine sf_aload rfl ?_
        refine sf_getr I_w rfl rfl ?_
        refine sf_aload rfl ?_
        refine sf_getr I_w rfl rfl ?_
        refine sf_getr I_w rfl rfl ?_
        refine sf_iload rfl ?_
        refine sf_iald I_w rfl (by omega) (fun v9 lv9 uv9 ev9 => ?_)
        clear ev9
        refine sf_call2 rfl rfl rfl ?_
        refine sf_rv I_w rfl ?_
        refine sc_T_classOf I_w (by omega) (by omega) (fun v10 w11 Iw11 tw11 lv10 uv10 => ?_)
        have s13 := sf_mt s_w tw11 rfl
        have c14 := sf_ma tw11 (p := 55) rfl
        have g1 := sf_ma tw11 (p := 55) rfl
        refine sf_istore (L' := [(6, .inl (.int v8)), (5, .inl (.int v7)), (0, .inl (.ref 51)), (1, .inl (.int a_declaration)), (2, .inl (.int x2)), (3, .inl (.int x3)), (4, .inl (.int x4))]) rfl ?_
        refine sf_aload rfl ?_
        refine sf_getr Iw11 rfl rfl ?_
        refine sf_iload rfl ?_
        refine sf_iload rfl ?_
        refine sf_iconst sf_cm1 (fun z15 ez15 => ?_)
        refine sf_f2_eq (fun h16 => ?_) (fun h16 => ?_)
        · refine sf_iconst sf_cm1 (fun z17 ez17 => ?_)
          refine sf_iast Iw11 s13 rfl (by omega) (by omega) rfl rfl (fun w18 Iw18 sw18 kw18 uw18 => ?_)
          clear kw18
          have g2 := uw18
          have g4 : (sf_a w18 55 x4.toInt.toNat).toInt = z17.toInt := by rw [uw18]; unfold upd; rw [if_pos rfl]
          refine sf_aload rfl ?_
          refine sf_getr Iw18 rfl rfl ?_
          refine sf_iload rfl ?_
          refine sf_iald Iw18 rfl (by omega) (fun v19 lv19 uv19 ev19 => ?_)
          have g3 := ev19
          refine sf_iconst sf_cm1 (fun z20 ez20 => ?_)
          refine sf_f2_eq (fun h21 => ?_) (fun h21 => ?_)
          · refine sf_iconst sf_c0 (fun z22 ez22 => ?_)
            refine sf_zreturn (by omega) rfl rfl ?_
            exact hR0 _ _ Iw18 sw18 (by omega) 
          · refine sf_aload rfl ?_
            refine sf_getr Iw18 rfl rfl ?_
            refine sf_iload rfl ?_
            refine sf_aload rfl ?_
            refine sf_getr Iw18 rfl rfl ?_
            refine sf_iload rfl ?_
            refine sf_iload rfl ?_
            refine sf_iload rfl ?_
            refine sf_call4 rfl rfl rfl ?_
            refine sf_rv Iw18 rfl ?_
            refine sc_Q_find Iw18 (by omega) (by omega) (fun v23 lv23 uv23 => ?_)
            refine sf_iast Iw18 sw18 rfl (by omega) (by omega) rfl rfl (fun w25 Iw25 sw25 kw25 uw25 => ?_)
            have c26 := sf_ma kw25 (p := 55) rfl
            clear kw25 uw25
            refine sf_iinc (L' := [(7, .inl (.int v10)), (6, .inl (.int v8)), (5, .inl (.int v7)), (0, .inl (.ref 51)), (1, .inl (.int a_declaration)), (2, .inl (.int x2)), (3, .inl (.int x3))]) sf_c1 rfl rfl (by omega) (fun v27 ev27 => ?_)
            refine sf_can (L' := [(0, .inl (.ref 51)), (1, .inl (.int a_declaration)), (2, .inl (.int x2)), (3, .inl (.int x3)), (4, .inl (.int v27))]) rfl ?_
            exact i_23 w25 x2 x3 v27 Iw25 sw25 (by omega) (by omega) (by omega) (by omega) (by omega) (by first | (intro k hk; omega) | (intro k hk; rw [c26]; rw [g2]; by_cases hk2 : k = x4.toInt.toNat; (subst hk2; rw [g2] at g3; omega); (unfold upd; rw [if_neg hk2, g1]; exact f_1 k (by omega)))) (by omega)
        · refine sf_aload rfl ?_
          refine sf_getr Iw11 rfl rfl ?_
          refine sf_iload rfl ?_
          refine sf_iload rfl ?_
          refine sf_iload rfl ?_
          refine sf_call4 rfl rfl rfl ?_
          refine sf_rv Iw11 rfl ?_
          refine sc_R_find Iw11 (by omega) (by omega) (fun v28 lv28 uv28 q29_0 => ?_)
          rw [sf_ma s13 (p := 2) rfl] at q29_0
          rw [sf_ma s13 (p := 14) rfl] at q29_0
          rw [sf_ma s13 (p := 15) rfl] at q29_0
          rw [sf_ma s13 (p := 19) rfl] at q29_0
          rw [sf_ma s13 (p := 20) rfl] at q29_0
          rw [sf_mf s13 (p := 13) (j := 1) rfl] at q29_0
          refine sf_iast Iw11 s13 rfl (by omega) (by omega) rfl rfl (fun w30 Iw30 sw30 kw30 uw30 => ?_)
          clear kw30
          have g2 := uw30
          have g4 : (sf_a w30 55 x4.toInt.toNat).toInt = v28.toInt := by rw [uw30]; unfold upd; rw [if_pos rfl]
          refine sf_aload rfl ?_
          refine sf_getr Iw30 rfl rfl ?_
          refine sf_iload rfl ?_
          refine sf_iald Iw30 rfl (by omega) (fun v31 lv31 uv31 ev31 => ?_)
          have g3 := ev31
          refine sf_iconst sf_cm1 (fun z32 ez32 => ?_)
          refine sf_f2_eq (fun h33 => ?_) (fun h33 => ?_)
          · refine sf_iconst sf_c0 (fun z34 ez34 => ?_)
            refine sf_zreturn (by omega) rfl rfl ?_
            exact hR0 _ _ Iw30 sw30 (by omega) 
          · refine sf_aload rfl ?_
            refine sf_getr Iw30 rfl rfl ?_
            refine sf_iload rfl ?_
            refine sf_aload rfl ?_
            refine sf_getr Iw30 rfl rfl ?_
            refine sf_iload rfl ?_
            refine sf_iload rfl ?_
            refine sf_iload rfl ?_
            refine sf_call4 rfl rfl rfl ?_
            refine sf_rv Iw30 rfl ?_
            refine sc_Q_find Iw30 (by omega) (by omega) (fun v35 lv35 uv35 => ?_)
            refine sf_iast Iw30 sw30 rfl (by omega) (by omega) rfl rfl (fun w37 Iw37 sw37 kw37 uw37 => ?_)
            have c38 := sf_ma kw37 (p := 55) rfl
            clear kw37 uw37
            refine sf_iinc (L' := [(7, .inl (.int v10)), (6, .inl (.int v8)), (5, .inl (.int v7)), (0, .inl (.ref 51)), (1, .inl (.int a_declaration)), (2, .inl (.int x2)), (3, .inl (.int x3))]) sf_c1 rfl rfl (by omega) (fun v39 ev39 => ?_)
            refine sf_can (L' := [(0, .inl (.ref 51)), (1, .inl (.int a_declaration)), (2, .inl (.int x2)), (3, .inl (.int x3)), (4, .inl (.int v39))]) rfl ?_
            exact i_23 w37 x2 x3 v39 Iw37 sw37 (by omega) (by omega) (by omega) (by omega) (by omega) (by first | (intro k hk; omega) | (intro k hk; rw [c38]; rw [g2]; by_cases hk2 : k = x4.toInt.toNat; (subst hk2; rw [g2] at g3; omega); (unfold upd; rw [if_neg hk2, g1]; exact f_1 k (by omega)))) (by omega)
  have hl1 := hl 1000000000000
  have i_23 := hl1
  clear hl hl1
  refine sf_sp (L := [(0, .inl (.ref 51)), (1, .inl (.int a_declaration))]) rfl rfl ?_
  generalize ku_A_canAssess rt xt 1000000000000 = K at i_23 ⊢
  refine sf_aload rfl ?_
  refine sf_getr hI0 rfl rfl ?_
  refine sf_getr hI0 rfl rfl ?_
  refine sf_iload rfl ?_
  refine sf_iald hI0 rfl (by omega) (fun v40 lv40 uv40 ev40 => ?_)
  refine sf_istore (L' := [(0, .inl (.ref 51)), (1, .inl (.int a_declaration))]) rfl ?_
  refine sf_aload rfl ?_
  refine sf_getr hI0 rfl rfl ?_
  refine sf_getr hI0 rfl rfl ?_
  refine sf_iload rfl ?_
  refine sf_iald hI0 rfl (by omega) (fun v41 lv41 uv41 ev41 => ?_)
  clear lv41 uv41
  clear ev41
  refine sf_istore (L' := [(2, .inl (.int v40)), (0, .inl (.ref 51)), (1, .inl (.int a_declaration))]) rfl ?_
  refine sf_iconst sf_c0 (fun z42 ez42 => ?_)
  refine sf_istore (L' := [(3, .inl (.int v41)), (2, .inl (.int v40)), (0, .inl (.ref 51)), (1, .inl (.int a_declaration))]) rfl ?_
  refine sf_can (L' := [(0, .inl (.ref 51)), (1, .inl (.int a_declaration)), (2, .inl (.int v40)), (3, .inl (.int v41)), (4, .inl (.int z42))]) rfl ?_
  exact i_23 w0 v40 v41 z42 hI0 hs0 (by omega) (by omega) (by omega) (by omega) (by omega) (by first | (intro k hk; omega) | (intro k hk; rw [g2]; by_cases hk2 : k = x4.toInt.toNat; (subst hk2; rw [g2] at g3; omega); (unfold upd; rw [if_neg hk2, g1]; exact f_1 k (by omega)))) (by omega)
def sm_A_canAssess_K : List Nat := [11, 12, 55, 56]
set_option maxRecDepth 100000 in
set_option maxHeartbeats 4000000 in
theorem sc_A_canAssess_K {w0 : wq_W} (hI0 : sf_I w0) {rt : Option wq_V → wq_W → Prop} {xt : Nat → wq_W → Prop} {a_declaration : Int32} (p0 : 0 ≤ a_declaration.toInt) (p1 : a_declaration.toInt ≤ 11) (p2 : sf_J (sf_a w0 3) (sf_a w0 2) (sf_f w0 1 0).toInt) (hR0 : ∀ (r : Int32) (w : wq_W), sf_I w → sf_m sm_A_canAssess_K w0 w → r.toInt = 0 → (¬ sc_ok (sc_rc (sc_b (sf_a w0 2) (sf_a w0 6) (sf_a w0 7) (sf_a w0 8) (sf_a w0 9) (sf_a w0 3) (sp_ag (sf_g w0 10)) (sf_f w0 1 5).toInt (sf_f w0 1 0).toInt) (sf_a w0 2) (sf_a w0 14) (sf_a w0 15) (sf_a w0 19) (sf_a w0 20) (sf_f w0 13 1).toInt (sf_a w0 42) (sf_a w0 43) (sf_a w0 36 a_declaration.toInt.toNat).toInt (4 * a_declaration.toInt).toNat) (sf_a w0 38 a_declaration.toInt.toNat).toInt) → rt (some (.inl (.int r))) w) (hR1 : ∀ (r : Int32) (w : wq_W), sf_I w → sf_m sm_A_canAssess_K w0 w → r.toInt = 1 → (∀ k : Nat, (k : Int) < (sf_a w 38 a_declaration.toInt.toNat).toInt → 0 ≤ (sf_a w 55 k).toInt) → (sc_ok (sc_rc (sc_b (sf_a w0 2) (sf_a w0 6) (sf_a w0 7) (sf_a w0 8) (sf_a w0 9) (sf_a w0 3) (sp_ag (sf_g w0 10)) (sf_f w0 1 5).toInt (sf_f w0 1 0).toInt) (sf_a w0 2) (sf_a w0 14) (sf_a w0 15) (sf_a w0 19) (sf_a w0 20) (sf_f w0 13 1).toInt (sf_a w0 42) (sf_a w0 43) (sf_a w0 36 a_declaration.toInt.toNat).toInt (4 * a_declaration.toInt).toNat) (sf_a w0 38 a_declaration.toInt.toNat).toInt) → rt (some (.inl (.int r))) w) : ks_A_canAssess [.inl (.ref 51), .inl (.int a_declaration)] w0 rt xt := by
  have hs0 : sf_m sm_A_canAssess_K w0 w0 := sf_m0
  have hl : ∀ n : Nat, (∀ (w : wq_W) (x2 : Int32) (x3 : Int32) (x4 : Int32), (sf_I w) → (sf_m sm_A_canAssess_K w0 w) → (0 ≤ x2.toInt) → (x2.toInt ≤ 4) → (0 ≤ x4.toInt) → (x4.toInt ≤ 4) → (x2.toInt = (sf_a w0 38 a_declaration.toInt.toNat).toInt) → (∀ k : Nat, (k : Int) < x4.toInt → 0 ≤ (sf_a w 55 k).toInt) → (∀ k : Nat, (k : Int) < x4.toInt → 0 ≤ (sc_rc (sc_b (sf_a w0 2) (sf_a w0 6) (sf_a w0 7) (sf_a w0 8) (sf_a w0 9) (sf_a w0 3) (sp_ag (sf_g w0 10)) (sf_f w0 1 5).toInt (sf_f w0 1 0).toInt) (sf_a w0 2) (sf_a w0 14) (sf_a w0 15) (sf_a w0 19) (sf_a w0 20) (sf_f w0 13 1).toInt (sf_a w0 42) (sf_a w0 43) (sf_a w0 36 a_declaration.toInt.toNat).toInt (4 * a_declaration.toInt).toNat) k) → (x3.toInt = (sf_a w0 36 a_declaration.toInt.toNat).toInt) → (4 - x4.toInt < (n : Int)) → ku_A_canAssess rt xt n 23 [(0, .inl (.ref 51)), (1, .inl (.int a_declaration)), (2, .inl (.int x2)), (3, .inl (.int x3)), (4, .inl (.int x4))] [] w 0 0) := by
    intro n
    induction n with
    | zero =>
      refine ?_
      · intros; omega
    | succ n ih =>
      have i_23 := ih
      intro w x2 x3 x4 I_w s_w l_x2 u_x2 l_x4 u_x4 f_0 f_1 f_2 f_3 hm
      show kh_A_canAssess_23 rt xt (ku_A_canAssess rt xt n) [(0, .inl (.ref 51)), (1, .inl (.int a_declaration)), (2, .inl (.int x2)), (3, .inl (.int x3)), (4, .inl (.int x4))] [] w 0 0
      generalize ku_A_canAssess rt xt n = K at i_23 ⊢
      refine sf_iload rfl ?_
      refine sf_iload rfl ?_
      refine sf_f2_ge (fun h1 => ?_) (fun h1 => ?_)
      · refine sf_iload rfl ?_
        refine sf_f1_le (fun h2 => ?_) (fun h2 => ?_)
        · refine sf_iconst sf_c0 (fun z3 ez3 => ?_)
          refine sf_zreturn (by omega) rfl rfl ?_
          exact hR0 _ _ I_w s_w (by omega) (fun h9 => absurd h9.1 (by omega))
        · refine sf_iconst sf_c1 (fun z4 ez4 => ?_)
          refine sf_zreturn (by omega) rfl rfl ?_
          exact hR1 _ _ I_w s_w (by omega) (by rw [sf_ma s_w (p := 38) rfl]; intro k hk; exact f_1 k (by omega)) ⟨by omega, fun k hk => f_2 k (by omega)⟩
      · refine sf_iload rfl ?_
        refine sf_iload rfl ?_
        refine sf_call2 rfl rfl rfl ?_
        refine sf_sp (L := [(0, .inl (.int a_declaration)), (1, .inl (.int x4))]) rfl rfl ?_
        refine sf_iload rfl ?_
        refine sf_iconst sf_c4 (fun z5 ez5 => ?_)
        refine sf_imulr (n := 4) (by omega) (by omega) (fun v6 ev6 => ?_)
        refine sf_iload rfl ?_
        refine sf_iadd (by omega) (fun v7 ev7 => ?_)
        refine sf_ireturn rfl rfl ?_
        refine sf_istore (L' := [(0, .inl (.ref 51)), (1, .inl (.int a_declaration)), (2, .inl (.int x2)), (3, .inl (.int x3)), (4, .inl (.int x4))]) rfl ?_
        refine sf_aload rfl ?_
        refine sf_getr I_w rfl rfl ?_
        refine sf_getr I_w rfl rfl ?_
        refine sf_iload rfl ?_
        refine sf_iald I_w rfl (by omega) (fun v8 lv8 uv8 ev8 => ?_)
        clear lv8 uv8
        rw [sf_ma s_w (p := 43) rfl] at ev8
        have gl := ev8
        rw [show v7.toInt.toNat = (4 * a_declaration.toInt).toNat + x4.toInt.toNat by omega] at gl
        refine sf_istore (L' := [(5, .inl (.int v7)), (0, .inl (.ref 51)), (1, .inl (.int a_declaration)), (2, .inl (.int x2)), (3, .inl (.int x3)), (4, .inl (.int x4))]) rfl ?_
        refine sf_aload rfl ?_
        refine sf_getr I_w rfl rfl ?_
        refine sf_aload rfl ?_
        refine sf_getr I_w rfl rfl ?_
        refine sf_getr I_w rfl rfl ?_
        refine sf_iload rfl ?_
        refine sf_iald I_w rfl (by omega) (fun v9 lv9 uv9 ev9 => ?_)
        rw [sf_ma s_w (p := 42) rfl] at ev9
        have gg := ev9
        rw [show v7.toInt.toNat = (4 * a_declaration.toInt).toNat + x4.toInt.toNat by omega] at gg
        refine sf_call2 rfl rfl rfl ?_
        refine sf_rv I_w rfl ?_
        refine sc_T_classOf_K I_w (by omega) (by omega) (by rw [sf_ma s_w (p := 3) rfl]; rw [sf_ma s_w (p := 2) rfl]; rw [sf_mf s_w (p := 1) (j := 0) rfl]; exact p2) (fun v10 w11 Iw11 tw11 lv10 uv10 q12_0 => ?_)
        rw [sf_ma s_w (p := 2) rfl] at q12_0
        rw [sf_ma s_w (p := 3) rfl] at q12_0
        rw [sf_ma s_w (p := 6) rfl] at q12_0
        rw [sf_ma s_w (p := 7) rfl] at q12_0
        rw [sf_ma s_w (p := 8) rfl] at q12_0
        rw [sf_ma s_w (p := 9) rfl] at q12_0
        rw [sf_mg s_w (p := 10) rfl] at q12_0
        rw [sf_mf s_w (p := 1) (j := 0) rfl] at q12_0
        rw [sf_mf s_w (p := 1) (j := 5) rfl] at q12_0
        have s13 := sf_mt s_w tw11 rfl
        have c14 := sf_ma tw11 (p := 55) rfl
        have g1 := sf_ma tw11 (p := 55) rfl
        have gb9 := q12_0
        rw [gg] at gb9
        have gb : v10.toInt = (sc_b (sf_a w0 2) (sf_a w0 6) (sf_a w0 7) (sf_a w0 8) (sf_a w0 9) (sf_a w0 3) (sp_ag (sf_g w0 10)) (sf_f w0 1 5).toInt (sf_f w0 1 0).toInt) (sf_a w0 42 ((4 * a_declaration.toInt).toNat + x4.toInt.toNat)).toInt := gb9
        refine sf_istore (L' := [(6, .inl (.int v8)), (5, .inl (.int v7)), (0, .inl (.ref 51)), (1, .inl (.int a_declaration)), (2, .inl (.int x2)), (3, .inl (.int x3)), (4, .inl (.int x4))]) rfl ?_
        refine sf_aload rfl ?_
        refine sf_getr Iw11 rfl rfl ?_
        refine sf_iload rfl ?_
        refine sf_iload rfl ?_
        refine sf_iconst sf_cm1 (fun z15 ez15 => ?_)
        refine sf_f2_eq (fun h16 => ?_) (fun h16 => ?_)
        · refine sf_iconst sf_cm1 (fun z17 ez17 => ?_)
          refine sf_iast Iw11 s13 rfl (by omega) (by omega) rfl rfl (fun w18 Iw18 sw18 kw18 uw18 => ?_)
          clear kw18
          have g2 := uw18
          have g4 : (sf_a w18 55 x4.toInt.toNat).toInt = z17.toInt := by rw [uw18]; unfold upd; rw [if_pos rfl]
          have hr : (sc_rc (sc_b (sf_a w0 2) (sf_a w0 6) (sf_a w0 7) (sf_a w0 8) (sf_a w0 9) (sf_a w0 3) (sp_ag (sf_g w0 10)) (sf_f w0 1 5).toInt (sf_f w0 1 0).toInt) (sf_a w0 2) (sf_a w0 14) (sf_a w0 15) (sf_a w0 19) (sf_a w0 20) (sf_f w0 13 1).toInt (sf_a w0 42) (sf_a w0 43) (sf_a w0 36 a_declaration.toInt.toNat).toInt (4 * a_declaration.toInt).toNat) x4.toInt.toNat = z17.toInt := (sc_r1 gb (by omega)).trans (by omega)
          refine sf_aload rfl ?_
          refine sf_getr Iw18 rfl rfl ?_
          refine sf_iload rfl ?_
          refine sf_iald Iw18 rfl (by omega) (fun v19 lv19 uv19 ev19 => ?_)
          have g3 := ev19
          refine sf_iconst sf_cm1 (fun z20 ez20 => ?_)
          refine sf_f2_eq (fun h21 => ?_) (fun h21 => ?_)
          · refine sf_iconst sf_c0 (fun z22 ez22 => ?_)
            refine sf_zreturn (by omega) rfl rfl ?_
            exact hR0 _ _ Iw18 sw18 (by omega) (fun h9 => absurd (h9.2 x4.toInt.toNat (by omega)) (by omega))
          · refine sf_aload rfl ?_
            refine sf_getr Iw18 rfl rfl ?_
            refine sf_iload rfl ?_
            refine sf_aload rfl ?_
            refine sf_getr Iw18 rfl rfl ?_
            refine sf_iload rfl ?_
            refine sf_iload rfl ?_
            refine sf_iload rfl ?_
            refine sf_call4 rfl rfl rfl ?_
            refine sf_rv Iw18 rfl ?_
            refine sc_Q_find Iw18 (by omega) (by omega) (fun v23 lv23 uv23 => ?_)
            refine sf_iast Iw18 sw18 rfl (by omega) (by omega) rfl rfl (fun w25 Iw25 sw25 kw25 uw25 => ?_)
            have c26 := sf_ma kw25 (p := 55) rfl
            clear kw25 uw25
            refine sf_iinc (L' := [(7, .inl (.int v10)), (6, .inl (.int v8)), (5, .inl (.int v7)), (0, .inl (.ref 51)), (1, .inl (.int a_declaration)), (2, .inl (.int x2)), (3, .inl (.int x3))]) sf_c1 rfl rfl (by omega) (fun v27 ev27 => ?_)
            refine sf_can (L' := [(0, .inl (.ref 51)), (1, .inl (.int a_declaration)), (2, .inl (.int x2)), (3, .inl (.int x3)), (4, .inl (.int v27))]) rfl ?_
            exact i_23 w25 x2 x3 v27 Iw25 sw25 (by omega) (by omega) (by omega) (by omega) (by omega) (by first | (intro k hk; omega) | (intro k hk; rw [c26]; rw [g2]; by_cases hk2 : k = x4.toInt.toNat; (subst hk2; rw [g2] at g3; omega); (unfold upd; rw [if_neg hk2, g1]; exact f_1 k (by omega)))) (by exact sc_okS f_2 (n := x4.toInt.toNat) (by omega) (by omega) (by omega)) (by omega) (by omega)
        · refine sf_aload rfl ?_
          refine sf_getr Iw11 rfl rfl ?_
          refine sf_iload rfl ?_
          refine sf_iload rfl ?_
          refine sf_iload rfl ?_
          refine sf_call4 rfl rfl rfl ?_
          refine sf_rv Iw11 rfl ?_
          refine sc_R_find Iw11 (by omega) (by omega) (fun v28 lv28 uv28 q29_0 => ?_)
          rw [sf_ma s13 (p := 2) rfl] at q29_0
          rw [sf_ma s13 (p := 14) rfl] at q29_0
          rw [sf_ma s13 (p := 15) rfl] at q29_0
          rw [sf_ma s13 (p := 19) rfl] at q29_0
          rw [sf_ma s13 (p := 20) rfl] at q29_0
          rw [sf_mf s13 (p := 13) (j := 1) rfl] at q29_0
          have gu := q29_0
          rw [f_3] at gu
          refine sf_iast Iw11 s13 rfl (by omega) (by omega) rfl rfl (fun w30 Iw30 sw30 kw30 uw30 => ?_)
          clear kw30
          have g2 := uw30
          have g4 : (sf_a w30 55 x4.toInt.toNat).toInt = v28.toInt := by rw [uw30]; unfold upd; rw [if_pos rfl]
          have hr : (sc_rc (sc_b (sf_a w0 2) (sf_a w0 6) (sf_a w0 7) (sf_a w0 8) (sf_a w0 9) (sf_a w0 3) (sp_ag (sf_g w0 10)) (sf_f w0 1 5).toInt (sf_f w0 1 0).toInt) (sf_a w0 2) (sf_a w0 14) (sf_a w0 15) (sf_a w0 19) (sf_a w0 20) (sf_f w0 13 1).toInt (sf_a w0 42) (sf_a w0 43) (sf_a w0 36 a_declaration.toInt.toNat).toInt (4 * a_declaration.toInt).toNat) x4.toInt.toNat = v28.toInt := sc_r2 gb (by omega) gl gu
          refine sf_aload rfl ?_
          refine sf_getr Iw30 rfl rfl ?_
          refine sf_iload rfl ?_
          refine sf_iald Iw30 rfl (by omega) (fun v31 lv31 uv31 ev31 => ?_)
          have g3 := ev31
          refine sf_iconst sf_cm1 (fun z32 ez32 => ?_)
          refine sf_f2_eq (fun h33 => ?_) (fun h33 => ?_)
          · refine sf_iconst sf_c0 (fun z34 ez34 => ?_)
            refine sf_zreturn (by omega) rfl rfl ?_
            exact hR0 _ _ Iw30 sw30 (by omega) (fun h9 => absurd (h9.2 x4.toInt.toNat (by omega)) (by omega))
          · refine sf_aload rfl ?_
            refine sf_getr Iw30 rfl rfl ?_
            refine sf_iload rfl ?_
            refine sf_aload rfl ?_
            refine sf_getr Iw30 rfl rfl ?_
            refine sf_iload rfl ?_
            refine sf_iload rfl ?_
            refine sf_iload rfl ?_
            refine sf_call4 rfl rfl rfl ?_
            refine sf_rv Iw30 rfl ?_
            refine sc_Q_find Iw30 (by omega) (by omega) (fun v35 lv35 uv35 => ?_)
            refine sf_iast Iw30 sw30 rfl (by omega) (by omega) rfl rfl (fun w37 Iw37 sw37 kw37 uw37 => ?_)
            have c38 := sf_ma kw37 (p := 55) rfl
            clear kw37 uw37
            refine sf_iinc (L' := [(7, .inl (.int v10)), (6, .inl (.int v8)), (5, .inl (.int v7)), (0, .inl (.ref 51)), (1, .inl (.int a_declaration)), (2, .inl (.int x2)), (3, .inl (.int x3))]) sf_c1 rfl rfl (by omega) (fun v39 ev39 => ?_)
            refine sf_can (L' := [(0, .inl (.ref 51)), (1, .inl (.int a_declaration)), (2, .inl (.int x2)), (3, .inl (.int x3)), (4, .inl (.int v39))]) rfl ?_
            exact i_23 w37 x2 x3 v39 Iw37 sw37 (by omega) (by omega) (by omega) (by omega) (by omega) (by first | (intro k hk; omega) | (intro k hk; rw [c38]; rw [g2]; by_cases hk2 : k = x4.toInt.toNat; (subst hk2; rw [g2] at g3; omega); (unfold upd; rw [if_neg hk2, g1]; exact f_1 k (by omega)))) (by exact sc_okS f_2 (n := x4.toInt.toNat) (by omega) (by omega) (by omega)) (by omega) (by omega)
  have hl1 := hl 1000000000000
  have i_23 := hl1
  clear hl hl1
  refine sf_sp (L := [(0, .inl (.ref 51)), (1, .inl (.int a_declaration))]) rfl rfl ?_
  generalize ku_A_canAssess rt xt 1000000000000 = K at i_23 ⊢
  refine sf_aload rfl ?_
  refine sf_getr hI0 rfl rfl ?_
  refine sf_getr hI0 rfl rfl ?_
  refine sf_iload rfl ?_
  refine sf_iald hI0 rfl (by omega) (fun v40 lv40 uv40 ev40 => ?_)
  refine sf_istore (L' := [(0, .inl (.ref 51)), (1, .inl (.int a_declaration))]) rfl ?_
  refine sf_aload rfl ?_
  refine sf_getr hI0 rfl rfl ?_
  refine sf_getr hI0 rfl rfl ?_
  refine sf_iload rfl ?_
  refine sf_iald hI0 rfl (by omega) (fun v41 lv41 uv41 ev41 => ?_)
  clear lv41 uv41
  refine sf_istore (L' := [(2, .inl (.int v40)), (0, .inl (.ref 51)), (1, .inl (.int a_declaration))]) rfl ?_
  refine sf_iconst sf_c0 (fun z42 ez42 => ?_)
  refine sf_istore (L' := [(3, .inl (.int v41)), (2, .inl (.int v40)), (0, .inl (.ref 51)), (1, .inl (.int a_declaration))]) rfl ?_
  refine sf_can (L' := [(0, .inl (.ref 51)), (1, .inl (.int a_declaration)), (2, .inl (.int v40)), (3, .inl (.int v41)), (4, .inl (.int z42))]) rfl ?_
  exact i_23 w0 v40 v41 z42 hI0 hs0 (by omega) (by omega) (by omega) (by omega) (by omega) (by first | (intro k hk; omega) | (intro k hk; rw [g2]; by_cases hk2 : k = x4.toInt.toNat; (subst hk2; rw [g2] at g3; omega); (unfold upd; rw [if_neg hk2, g1]; exact f_1 k (by omega)))) (by exact fun k hk => absurd hk (by omega)) (by omega) (by omega)
def sm_B_hasGoneUnits : List Nat := []
set_option maxRecDepth 100000 in
set_option maxHeartbeats 4000000 in
theorem sc_B_hasGoneUnits {w0 : wq_W} (hI0 : sf_I w0) {rt : Option wq_V → wq_W → Prop} {xt : Nat → wq_W → Prop} {a_declaration : Int32} (p0 : 0 ≤ a_declaration.toInt) (p1 : a_declaration.toInt ≤ 11) (hR : ∀ (r : Int32), 0 ≤ r.toInt → r.toInt ≤ 1 → (r.toInt = 0 ↔ ∀ k : Nat, (k : Int) < (sf_a w0 38 a_declaration.toInt.toNat).toInt → (sf_a w0 63 (sl_ix (sf_a w0 41 a_declaration.toInt.toNat).toInt k)).toInt ≤ 0) → rt (some (.inl (.int r))) w0) : ks_B_hasGoneUnits [.inl (.ref 0), .inl (.int a_declaration)] w0 rt xt := by
  have hl : ∀ n : Nat, (∀ (x2 : Int32), (0 ≤ x2.toInt) → (x2.toInt ≤ 4) → (∀ k : Nat, (k : Int) < x2.toInt → (sf_a w0 63 (sl_ix (sf_a w0 41 a_declaration.toInt.toNat).toInt k)).toInt ≤ 0) → (4 - x2.toInt < (n : Int)) → ku_B_hasGoneUnits rt xt n 2 [(0, .inl (.ref 0)), (1, .inl (.int a_declaration)), (2, .inl (.int x2))] [] w0 0 0) := by
    intro n
    induction n with
    | zero =>
      refine ?_
      · intros; omega
    | succ n ih =>
      have i_2 := ih
      intro x2 l_x2 u_x2 f_0 hm
      show kh_B_hasGoneUnits_2 rt xt (ku_B_hasGoneUnits rt xt n) [(0, .inl (.ref 0)), (1, .inl (.int a_declaration)), (2, .inl (.int x2))] [] w0 0 0
      generalize ku_B_hasGoneUnits rt xt n = K at i_2 ⊢
      have r3 := (sf_R3 hI0 (d := a_declaration) (by omega)).1
      refine sf_iload rfl ?_
      refine sf_aload rfl ?_
      refine sf_getr hI0 rfl rfl ?_
      refine sf_getr hI0 rfl rfl ?_
      refine sf_iload rfl ?_
      refine sf_iald hI0 rfl (by omega) (fun v1 lv1 uv1 ev1 => ?_)
      refine sf_f2_ge (fun h2 => ?_) (fun h2 => ?_)
      · refine sf_iconst sf_c0 (fun z3 ez3 => ?_)
        refine sf_zreturn (by omega) rfl rfl ?_
        exact hR _ (by omega) (by omega) ⟨fun _ k hk => f_0 k (by omega), fun _ => by omega⟩
      · refine sf_aload rfl ?_
        refine sf_getr hI0 rfl rfl ?_
        refine sf_getr hI0 rfl rfl ?_
        refine sf_aload rfl ?_
        refine sf_getr hI0 rfl rfl ?_
        refine sf_getr hI0 rfl rfl ?_
        refine sf_iload rfl ?_
        refine sf_iald hI0 rfl (by omega) (fun v4 lv4 uv4 ev4 => ?_)
        refine sf_iload rfl ?_
        refine sf_iadd (by omega) (fun v5 ev5 => ?_)
        refine sf_iald hI0 rfl (by omega) (fun v6 lv6 uv6 ev6 => ?_)
        clear lv6 uv6
        have gz : (sf_a w0 63 (sl_ix (sf_a w0 41 a_declaration.toInt.toNat).toInt x2.toInt.toNat)).toInt = v6.toInt := by unfold sl_ix; rw [show ((sf_a w0 41 a_declaration.toInt.toNat).toInt + ((x2.toInt.toNat : Nat) : Int)).toNat = v5.toInt.toNat by omega]; omega
        refine sf_f1_le (fun h7 => ?_) (fun h7 => ?_)
        · refine sf_iinc (L' := [(0, .inl (.ref 0)), (1, .inl (.int a_declaration))]) sf_c1 rfl rfl (by omega) (fun v8 ev8 => ?_)
          refine sf_can (L' := [(0, .inl (.ref 0)), (1, .inl (.int a_declaration)), (2, .inl (.int v8))]) rfl ?_
          exact i_2 v8 (by omega) (by omega) (by intro k hk; by_cases h9 : k = x2.toInt.toNat; (subst h9; omega); (exact f_0 k (by omega))) (by omega)
        · refine sf_iconst sf_c1 (fun z9 ez9 => ?_)
          refine sf_zreturn (by omega) rfl rfl ?_
          exact hR _ (by omega) (by omega) ⟨fun h9 => absurd h9 (by omega), fun h9 => absurd (h9 x2.toInt.toNat (by omega)) (by omega)⟩
  have hl1 := hl 1000000000000
  have i_2 := hl1
  clear hl hl1
  refine sf_sp (L := [(0, .inl (.ref 0)), (1, .inl (.int a_declaration))]) rfl rfl ?_
  generalize ku_B_hasGoneUnits rt xt 1000000000000 = K at i_2 ⊢
  refine sf_iconst sf_c0 (fun z10 ez10 => ?_)
  refine sf_istore (L' := [(0, .inl (.ref 0)), (1, .inl (.int a_declaration))]) rfl ?_
  refine sf_can (L' := [(0, .inl (.ref 0)), (1, .inl (.int a_declaration)), (2, .inl (.int z10))]) rfl ?_
  exact i_2 z10 (by omega) (by omega) (by exact fun k hk => absurd hk (by omega)) (by omega)
def sm_B_changeLots : List Nat := [62, 64, 67, 7700]
set_option maxRecDepth 100000 in
set_option maxHeartbeats 4000000 in
theorem sc_B_changeLots {w0 : wq_W} (hI0 : sf_I w0) {rt : Option wq_V → wq_W → Prop} {xt : Nat → wq_W → Prop} {a_declaration : Int32} (p0 : 0 ≤ a_declaration.toInt) (p1 : a_declaration.toInt ≤ 11) (hR : ∀ (w : wq_W), sf_I w → sf_m sm_B_changeLots w0 w → (sf_a w 62 = sl_W (sf_a w0 62) (sl_ix (sf_a w0 41 a_declaration.toInt.toNat).toInt) (sl_sr (sf_a w0 44) (4 * a_declaration.toInt).toNat) (sf_a w0 38 a_declaration.toInt.toNat).toInt.toNat) → rt none w) : ks_B_changeLots [.inl (.ref 0), .inl (.int a_declaration)] w0 rt xt := by
  have hs0 : sf_m sm_B_changeLots w0 w0 := sf_m0
  have bL := (sf_arr hI0 (p := 38) rfl).2.1 a_declaration.toInt.toNat (by omega)
  have hl : ∀ n : Nat, (∀ (w : wq_W) (x2 : Int32), (sf_I w) → (sf_m sm_B_changeLots w0 w) → (0 ≤ x2.toInt) → (x2.toInt ≤ 4) → (sf_a w 62 = sl_W (sf_a w0 62) (sl_ix (sf_a w0 41 a_declaration.toInt.toNat).toInt) (sl_sr (sf_a w0 44) (4 * a_declaration.toInt).toNat) x2.toInt.toNat) → (x2.toInt ≤ (sf_a w0 38 a_declaration.toInt.toNat).toInt) → (4 - x2.toInt < (n : Int)) → ku_B_changeLots rt xt n 2 [(0, .inl (.ref 0)), (1, .inl (.int a_declaration)), (2, .inl (.int x2))] [] w 0 0) := by
    intro n
    induction n with
    | zero =>
      refine ?_
      · intros; omega
    | succ n ih =>
      have i_2 := ih
      intro w x2 I_w s_w l_x2 u_x2 f_0 f_1 hm
      show kh_B_changeLots_2 rt xt (ku_B_changeLots rt xt n) [(0, .inl (.ref 0)), (1, .inl (.int a_declaration)), (2, .inl (.int x2))] [] w 0 0
      generalize ku_B_changeLots rt xt n = K at i_2 ⊢
      have r3 := (sf_R3 I_w (d := a_declaration) (by omega)).1
      rw [sf_ma s_w (p := 38) rfl] at r3
      rw [sf_ma s_w (p := 41) rfl] at r3
      refine sf_iload rfl ?_
      refine sf_aload rfl ?_
      refine sf_getr I_w rfl rfl ?_
      refine sf_getr I_w rfl rfl ?_
      refine sf_iload rfl ?_
      refine sf_iald I_w rfl (by omega) (fun v1 lv1 uv1 ev1 => ?_)
      rw [sf_ma s_w (p := 38) rfl] at ev1
      refine sf_f2_ge (fun h2 => ?_) (fun h2 => ?_)
      · refine sf_vreturn rfl rfl ?_
        exact hR _ I_w s_w (by rw [show (sf_a w0 38 a_declaration.toInt.toNat).toInt.toNat = x2.toInt.toNat by omega]; exact f_0)
      · refine sf_iload rfl ?_
        refine sf_iload rfl ?_
        refine sf_call2 rfl rfl rfl ?_
        refine sf_sp (L := [(0, .inl (.int a_declaration)), (1, .inl (.int x2))]) rfl rfl ?_
        refine sf_iload rfl ?_
        refine sf_iconst sf_c4 (fun z3 ez3 => ?_)
        refine sf_imulr (n := 4) (by omega) (by omega) (fun v4 ev4 => ?_)
        refine sf_iload rfl ?_
        refine sf_iadd (by omega) (fun v5 ev5 => ?_)
        refine sf_ireturn rfl rfl ?_
        refine sf_istore (L' := [(0, .inl (.ref 0)), (1, .inl (.int a_declaration)), (2, .inl (.int x2))]) rfl ?_
        refine sf_aload rfl ?_
        refine sf_getr I_w rfl rfl ?_
        refine sf_getr I_w rfl rfl ?_
        refine sf_iload rfl ?_
        refine sf_iald I_w rfl (by omega) (fun v6 lv6 uv6 ev6 => ?_)
        rw [sf_ma s_w (p := 41) rfl] at ev6
        refine sf_iload rfl ?_
        refine sf_iadd (by omega) (fun v7 ev7 => ?_)
        refine sf_istore (L' := [(3, .inl (.int v5)), (0, .inl (.ref 0)), (1, .inl (.int a_declaration)), (2, .inl (.int x2))]) rfl ?_
        refine sf_aload rfl ?_
        refine sf_getr I_w rfl rfl ?_
        refine sf_getr I_w rfl rfl ?_
        refine sf_iload rfl ?_
        refine sf_zald I_w rfl (by omega) (fun v8 lv8 uv8 ev8 => ?_)
        clear ev8
        refine sf_f1_eq (fun h9 => ?_) (fun h9 => ?_)
        · refine sf_aload rfl ?_
          refine sf_getr I_w rfl rfl ?_
          refine sf_dup rfl ?_
          refine sf_getl I_w rfl rfl (fun v10 => ?_)
          refine sf_aload rfl ?_
          refine sf_getr I_w rfl rfl ?_
          refine sf_getr I_w rfl rfl ?_
          refine sf_iload rfl ?_
          refine sf_lald I_w rfl (by omega) (fun v11 ev11 => ?_)
          clear ev11
          refine sf_aload rfl ?_
          refine sf_getr I_w rfl rfl ?_
          refine sf_getr I_w rfl rfl ?_
          refine sf_iload rfl ?_
          refine sf_lald I_w rfl (by omega) (fun v12 ev12 => ?_)
          clear ev12
          refine sf_l2 (fun v13 => ?_)
          refine sf_l2 (fun v14 => ?_)
          refine sf_putl I_w s_w rfl rfl rfl rfl rfl (fun w15 Iw15 sw15 kw15 uw15 => ?_)
          have c16 := sf_ma kw15 (p := 62) rfl
          clear kw15 uw15
          refine sf_aload rfl ?_
          refine sf_getr Iw15 rfl rfl ?_
          refine sf_getr Iw15 rfl rfl ?_
          refine sf_iload rfl ?_
          refine sf_aload rfl ?_
          refine sf_getr Iw15 rfl rfl ?_
          refine sf_getr Iw15 rfl rfl ?_
          refine sf_iload rfl ?_
          refine sf_iald Iw15 rfl (by omega) (fun v17 lv17 uv17 ev17 => ?_)
          rw [sf_ma sw15 (p := 44) rfl] at ev17
          have gu := ev17
          rw [show v5.toInt.toNat = (4 * a_declaration.toInt).toNat + x2.toInt.toNat by omega] at gu
          refine sf_iast Iw15 sw15 rfl (by omega) (sf_bd _) rfl rfl (fun w18 Iw18 sw18 kw18 uw18 => ?_)
          clear kw18
          have us := uw18
          rw [c16] at us
          refine sf_aload rfl ?_
          refine sf_getr Iw18 rfl rfl ?_
          refine sf_getr Iw18 rfl rfl ?_
          refine sf_iload rfl ?_
          refine sf_aload rfl ?_
          refine sf_getr Iw18 rfl rfl ?_
          refine sf_getr Iw18 rfl rfl ?_
          refine sf_iload rfl ?_
          refine sf_lald Iw18 rfl (by omega) (fun v19 ev19 => ?_)
          clear ev19
          refine sf_last Iw18 sw18 rfl (by omega) rfl rfl (fun w20 Iw20 sw20 kw20 uw20 => ?_)
          have c21 := sf_ma kw20 (p := 62) rfl
          clear kw20 uw20
          refine sf_iinc (L' := [(4, .inl (.int v7)), (3, .inl (.int v5)), (0, .inl (.ref 0)), (1, .inl (.int a_declaration))]) sf_c1 rfl rfl (by omega) (fun v22 ev22 => ?_)
          refine sf_can (L' := [(0, .inl (.ref 0)), (1, .inl (.int a_declaration)), (2, .inl (.int v22))]) rfl ?_
          exact i_2 w20 v22 Iw20 sw20 (by omega) (by omega) (by rw [c21]; exact sl_WS (n := x2.toInt.toNat) f_0 (by omega) us (by unfold sl_ix; omega) (sb_eq gu)) (by omega) (by omega)
        · refine sf_aload rfl ?_
          refine sf_getr I_w rfl rfl ?_
          refine sf_getr I_w rfl rfl ?_
          refine sf_iload rfl ?_
          refine sf_aload rfl ?_
          refine sf_getr I_w rfl rfl ?_
          refine sf_getr I_w rfl rfl ?_
          refine sf_iload rfl ?_
          refine sf_iald I_w rfl (by omega) (fun v23 lv23 uv23 ev23 => ?_)
          rw [sf_ma s_w (p := 44) rfl] at ev23
          have gu := ev23
          rw [show v5.toInt.toNat = (4 * a_declaration.toInt).toNat + x2.toInt.toNat by omega] at gu
          refine sf_iast I_w s_w rfl (by omega) (sf_bd _) rfl rfl (fun w24 Iw24 sw24 kw24 uw24 => ?_)
          clear kw24
          have us := uw24
          skip
          refine sf_aload rfl ?_
          refine sf_getr Iw24 rfl rfl ?_
          refine sf_getr Iw24 rfl rfl ?_
          refine sf_iload rfl ?_
          refine sf_aload rfl ?_
          refine sf_getr Iw24 rfl rfl ?_
          refine sf_getr Iw24 rfl rfl ?_
          refine sf_iload rfl ?_
          refine sf_lald Iw24 rfl (by omega) (fun v25 ev25 => ?_)
          clear ev25
          refine sf_last Iw24 sw24 rfl (by omega) rfl rfl (fun w26 Iw26 sw26 kw26 uw26 => ?_)
          have c27 := sf_ma kw26 (p := 62) rfl
          clear kw26 uw26
          refine sf_iinc (L' := [(4, .inl (.int v7)), (3, .inl (.int v5)), (0, .inl (.ref 0)), (1, .inl (.int a_declaration))]) sf_c1 rfl rfl (by omega) (fun v28 ev28 => ?_)
          refine sf_can (L' := [(0, .inl (.ref 0)), (1, .inl (.int a_declaration)), (2, .inl (.int v28))]) rfl ?_
          exact i_2 w26 v28 Iw26 sw26 (by omega) (by omega) (by rw [c27]; exact sl_WS (n := x2.toInt.toNat) f_0 (by omega) us (by unfold sl_ix; omega) (sb_eq gu)) (by omega) (by omega)
  have hl1 := hl 1000000000000
  have i_2 := hl1
  clear hl hl1
  refine sf_sp (L := [(0, .inl (.ref 0)), (1, .inl (.int a_declaration))]) rfl rfl ?_
  generalize ku_B_changeLots rt xt 1000000000000 = K at i_2 ⊢
  refine sf_iconst sf_c0 (fun z29 ez29 => ?_)
  refine sf_istore (L' := [(0, .inl (.ref 0)), (1, .inl (.int a_declaration))]) rfl ?_
  refine sf_can (L' := [(0, .inl (.ref 0)), (1, .inl (.int a_declaration)), (2, .inl (.int z29))]) rfl ?_
  exact i_2 w0 z29 hI0 hs0 (by omega) (by omega) (by exact sl_W0 rfl (by omega)) (by omega) (by omega)
def sm_B_makeLots : List Nat := [41, 60, 61, 62, 64, 65, 66, 67, 7000, 7700]
set_option maxRecDepth 100000 in
set_option maxHeartbeats 4000000 in
theorem sc_B_makeLots {w0 : wq_W} (hI0 : sf_I w0) {rt : Option wq_V → wq_W → Prop} {xt : Nat → wq_W → Prop} {a_declaration : Int32} (p0 : 0 ≤ a_declaration.toInt) (p1 : a_declaration.toInt ≤ 11) (p2 : (sf_f w0 60 0).toInt + (sf_a w0 38 a_declaration.toInt.toNat).toInt ≤ 40) (p3 : (sf_a w0 40 a_declaration.toInt.toNat).toInt = 1) (hR : ∀ (w : wq_W), sf_I w → sf_m sm_B_makeLots w0 w → ((sf_f w 60 0).toInt = (sf_f w0 60 0).toInt + (sf_a w0 38 a_declaration.toInt.toNat).toInt) → (sf_a w 61 = sl_W (sf_a w0 61) (sl_ix (sf_f w0 60 0).toInt) (sl_sr (sf_a w0 42) (4 * a_declaration.toInt).toNat) (sf_a w0 38 a_declaration.toInt.toNat).toInt.toNat) → (sf_a w 62 = sl_W (sf_a w0 62) (sl_ix (sf_f w0 60 0).toInt) (sl_sr (sf_a w0 44) (4 * a_declaration.toInt).toNat) (sf_a w0 38 a_declaration.toInt.toNat).toInt.toNat) → (sf_a w 65 = sl_W (sf_a w0 65) (sl_ix (sf_f w0 60 0).toInt) (sl_sr (sf_a w0 47) (4 * a_declaration.toInt).toNat) (sf_a w0 38 a_declaration.toInt.toNat).toInt.toNat) → (sf_a w 66 = sl_W (sf_a w0 66) (sl_ix (sf_f w0 60 0).toInt) (sl_kk 0) (sf_a w0 38 a_declaration.toInt.toNat).toInt.toNat) → (∃ z : Int32, z.toInt = (sf_f w0 60 0).toInt ∧ sf_a w 41 = upd (sf_a w0 41) a_declaration.toInt.toNat z) → rt none w) : ks_B_makeLots [.inl (.ref 0), .inl (.int a_declaration)] w0 rt xt := by
  have hs0 : sf_m sm_B_makeLots w0 w0 := sf_m0
  have bL := (sf_arr hI0 (p := 38) rfl).2.1 a_declaration.toInt.toNat (by omega)
  have hl : ∀ n : Nat, (∀ (w : wq_W) (x2 : Int32), (sf_I w) → (sf_m sm_B_makeLots w0 w) → (0 ≤ x2.toInt) → (x2.toInt ≤ 4) → ((sf_f w 60 0).toInt + (sf_a w0 38 a_declaration.toInt.toNat).toInt - x2.toInt ≤ 40) → ((sf_f w 60 0).toInt = (sf_f w0 60 0).toInt + x2.toInt) → (sf_a w 61 = sl_W (sf_a w0 61) (sl_ix (sf_f w0 60 0).toInt) (sl_sr (sf_a w0 42) (4 * a_declaration.toInt).toNat) x2.toInt.toNat) → (sf_a w 62 = sl_W (sf_a w0 62) (sl_ix (sf_f w0 60 0).toInt) (sl_sr (sf_a w0 44) (4 * a_declaration.toInt).toNat) x2.toInt.toNat) → (sf_a w 65 = sl_W (sf_a w0 65) (sl_ix (sf_f w0 60 0).toInt) (sl_sr (sf_a w0 47) (4 * a_declaration.toInt).toNat) x2.toInt.toNat) → (sf_a w 66 = sl_W (sf_a w0 66) (sl_ix (sf_f w0 60 0).toInt) (sl_kk 0) x2.toInt.toNat) → (∃ z : Int32, z.toInt = (sf_f w0 60 0).toInt ∧ sf_a w 41 = upd (sf_a w0 41) a_declaration.toInt.toNat z) → (x2.toInt ≤ (sf_a w0 38 a_declaration.toInt.toNat).toInt) → (4 - x2.toInt < (n : Int)) → ku_B_makeLots rt xt n 18 [(0, .inl (.ref 0)), (1, .inl (.int a_declaration)), (2, .inl (.int x2))] [] w 0 0) := by
    intro n
    induction n with
    | zero =>
      refine ?_
      · intros; omega
    | succ n ih =>
      have i_18 := ih
      intro w x2 I_w s_w l_x2 u_x2 f_0 f_1 f_2 f_3 f_4 f_5 f_6 f_7 hm
      show kh_B_makeLots_18 rt xt (ku_B_makeLots rt xt n) [(0, .inl (.ref 0)), (1, .inl (.int a_declaration)), (2, .inl (.int x2))] [] w 0 0
      generalize ku_B_makeLots rt xt n = K at i_18 ⊢
      refine sf_iload rfl ?_
      refine sf_aload rfl ?_
      refine sf_getr I_w rfl rfl ?_
      refine sf_getr I_w rfl rfl ?_
      refine sf_iload rfl ?_
      refine sf_iald I_w rfl (by omega) (fun v1 lv1 uv1 ev1 => ?_)
      rw [sf_ma s_w (p := 38) rfl] at ev1
      refine sf_f2_ge (fun h2 => ?_) (fun h2 => ?_)
      · refine sf_vreturn rfl rfl ?_
        exact hR _ I_w s_w (by omega) (by rw [show (sf_a w0 38 a_declaration.toInt.toNat).toInt.toNat = x2.toInt.toNat by omega]; exact f_2) (by rw [show (sf_a w0 38 a_declaration.toInt.toNat).toInt.toNat = x2.toInt.toNat by omega]; exact f_3) (by rw [show (sf_a w0 38 a_declaration.toInt.toNat).toInt.toNat = x2.toInt.toNat by omega]; exact f_4) (by rw [show (sf_a w0 38 a_declaration.toInt.toNat).toInt.toNat = x2.toInt.toNat by omega]; exact f_5) (by exact f_6)
      · refine sf_iload rfl ?_
        refine sf_iload rfl ?_
        refine sf_call2 rfl rfl rfl ?_
        refine sf_sp (L := [(0, .inl (.int a_declaration)), (1, .inl (.int x2))]) rfl rfl ?_
        refine sf_iload rfl ?_
        refine sf_iconst sf_c4 (fun z3 ez3 => ?_)
        refine sf_imulr (n := 4) (by omega) (by omega) (fun v4 ev4 => ?_)
        refine sf_iload rfl ?_
        refine sf_iadd (by omega) (fun v5 ev5 => ?_)
        refine sf_ireturn rfl rfl ?_
        refine sf_istore (L' := [(0, .inl (.ref 0)), (1, .inl (.int a_declaration)), (2, .inl (.int x2))]) rfl ?_
        refine sf_aload rfl ?_
        refine sf_getr I_w rfl rfl ?_
        refine sf_getr I_w rfl rfl ?_
        refine sf_iload rfl ?_
        refine sf_zald I_w rfl (by omega) (fun v6 lv6 uv6 ev6 => ?_)
        rw [sf_ma s_w (p := 47) rfl] at ev6
        have gh := ev6
        rw [show v5.toInt.toNat = (4 * a_declaration.toInt).toNat + x2.toInt.toNat by omega] at gh
        refine sf_istore (L' := [(3, .inl (.int v5)), (0, .inl (.ref 0)), (1, .inl (.int a_declaration)), (2, .inl (.int x2))]) rfl ?_
        refine sf_aload rfl ?_
        refine sf_getr I_w rfl rfl ?_
        refine sf_getr I_w rfl rfl ?_
        refine sf_iload rfl ?_
        refine sf_lald I_w rfl (by omega) (fun v7 ev7 => ?_)
        clear ev7
        refine sf_lstore (L' := [(4, .inl (.int v6)), (3, .inl (.int v5)), (0, .inl (.ref 0)), (1, .inl (.int a_declaration)), (2, .inl (.int x2))]) rfl ?_
        refine sf_aload rfl ?_
        refine sf_getr I_w rfl rfl ?_
        refine sf_aload rfl ?_
        refine sf_getr I_w rfl rfl ?_
        refine sf_getr I_w rfl rfl ?_
        refine sf_iload rfl ?_
        refine sf_iald I_w rfl (by omega) (fun v8 lv8 uv8 ev8 => ?_)
        rw [sf_ma s_w (p := 42) rfl] at ev8
        have gg := ev8
        rw [show v5.toInt.toNat = (4 * a_declaration.toInt).toNat + x2.toInt.toNat by omega] at gg
        refine sf_aload rfl ?_
        refine sf_getr I_w rfl rfl ?_
        refine sf_getr I_w rfl rfl ?_
        refine sf_iload rfl ?_
        refine sf_iald I_w rfl (by omega) (fun v9 lv9 uv9 ev9 => ?_)
        rw [sf_ma s_w (p := 44) rfl] at ev9
        have gu := ev9
        rw [show v5.toInt.toNat = (4 * a_declaration.toInt).toNat + x2.toInt.toNat by omega] at gu
        refine sf_lload rfl ?_
        refine sf_iload rfl ?_
        refine sf_iconst sf_c0 (fun z10 ez10 => ?_)
        refine sf_call6 rfl rfl rfl ?_
        refine sf_rv I_w rfl ?_
        refine sc_L_add I_w (by omega) (by omega) (by omega) (by omega) (by omega) (fun v11 w12 Iw12 tw12 lv11 uv11 q13_0 q13_1 q13_2 q13_3 q13_4 q13_5 => ?_)
        have s14 := sf_mt s_w tw12 rfl
        have c15 := sf_ma tw12 (p := 41) rfl
        have gA0 := q13_1
        have gA1 := q13_2
        have gA2 := q13_3
        have gA3 := q13_4
        refine sf_pop rfl ?_
        refine sf_iload rfl ?_
        refine sf_f1_eq (fun h16 => ?_) (fun h16 => ?_)
        · refine sf_aload rfl ?_
          refine sf_getr Iw12 rfl rfl ?_
          refine sf_dup rfl ?_
          refine sf_getl Iw12 rfl rfl (fun v17 => ?_)
          refine sf_lload rfl ?_
          refine sf_l2 (fun v18 => ?_)
          refine sf_putl Iw12 s14 rfl rfl rfl rfl rfl (fun w19 Iw19 sw19 kw19 uw19 => ?_)
          have c20 := sf_mf kw19 (p := 60) (j := 0) rfl
          have c21 := sf_ma kw19 (p := 61) rfl
          have c22 := sf_ma kw19 (p := 62) rfl
          have c23 := sf_ma kw19 (p := 65) rfl
          have c24 := sf_ma kw19 (p := 66) rfl
          have c25 := sf_ma kw19 (p := 41) rfl
          clear kw19 uw19
          refine sf_iinc (L' := [(5, .inl (.long v7)), (4, .inl (.int v6)), (3, .inl (.int v5)), (0, .inl (.ref 0)), (1, .inl (.int a_declaration))]) sf_c1 rfl rfl (by omega) (fun v26 ev26 => ?_)
          refine sf_can (L' := [(0, .inl (.ref 0)), (1, .inl (.int a_declaration)), (2, .inl (.int v26))]) rfl ?_
          exact i_18 w19 v26 Iw19 sw19 (by omega) (by omega) (by rw [c20]; omega) (by rw [c20]; omega) (by rw [c21]; exact sl_WS (n := x2.toInt.toNat) f_2 (by omega) gA0 (by unfold sl_ix; omega) (sb_eq gg)) (by rw [c22]; exact sl_WS (n := x2.toInt.toNat) f_3 (by omega) gA1 (by unfold sl_ix; omega) (sb_eq gu)) (by rw [c23]; exact sl_WS (n := x2.toInt.toNat) f_4 (by omega) gA2 (by unfold sl_ix; omega) (sb_eq gh)) (by rw [c24]; exact sl_WS (n := x2.toInt.toNat) f_5 (by omega) gA3 (by unfold sl_ix; omega) (sb_eq (show _ = (0 : Int32).toInt by rw [sf_z0]; omega))) (by rw [c25, c15]; exact f_6) (by omega) (by omega)
        · refine sf_iinc (L' := [(5, .inl (.long v7)), (4, .inl (.int v6)), (3, .inl (.int v5)), (0, .inl (.ref 0)), (1, .inl (.int a_declaration))]) sf_c1 rfl rfl (by omega) (fun v27 ev27 => ?_)
          refine sf_can (L' := [(0, .inl (.ref 0)), (1, .inl (.int a_declaration)), (2, .inl (.int v27))]) rfl ?_
          exact i_18 w12 v27 Iw12 s14 (by omega) (by omega) (by omega) (by omega) (by exact sl_WS (n := x2.toInt.toNat) f_2 (by omega) gA0 (by unfold sl_ix; omega) (sb_eq gg)) (by exact sl_WS (n := x2.toInt.toNat) f_3 (by omega) gA1 (by unfold sl_ix; omega) (sb_eq gu)) (by exact sl_WS (n := x2.toInt.toNat) f_4 (by omega) gA2 (by unfold sl_ix; omega) (sb_eq gh)) (by exact sl_WS (n := x2.toInt.toNat) f_5 (by omega) gA3 (by unfold sl_ix; omega) (sb_eq (show _ = (0 : Int32).toInt by rw [sf_z0]; omega))) (by rw [c15]; exact f_6) (by omega) (by omega)
  have hl1 := hl 1000000000000
  have i_18 := hl1
  clear hl hl1
  refine sf_sp (L := [(0, .inl (.ref 0)), (1, .inl (.int a_declaration))]) rfl rfl ?_
  generalize ku_B_makeLots rt xt 1000000000000 = K at i_18 ⊢
  refine sf_aload rfl ?_
  refine sf_getr hI0 rfl rfl ?_
  refine sf_getr hI0 rfl rfl ?_
  refine sf_iload rfl ?_
  refine sf_aload rfl ?_
  refine sf_getr hI0 rfl rfl ?_
  refine sf_geti hI0 rfl rfl (fun v28 lv28 uv28 ev28 => ?_)
  refine sf_iastR hI0 hs0 rfl (by omega) (by omega) rfl (fun w9 h1 h2 => sf_R_fl hI0 h1 h2 (by omega) (by omega)) (fun w29 Iw29 sw29 kw29 uw29 => ?_)
  have c30 := sf_mf kw29 (p := 60) (j := 0) rfl
  have c31 := sf_ma kw29 (p := 61) rfl
  have c32 := sf_ma kw29 (p := 62) rfl
  have c33 := sf_ma kw29 (p := 65) rfl
  have c34 := sf_ma kw29 (p := 66) rfl
  clear kw29
  have uf := uw29
  skip
  have vf : v28.toInt = (sf_f w0 60 0).toInt := by omega
  refine sf_iconst sf_c0 (fun z35 ez35 => ?_)
  refine sf_istore (L' := [(0, .inl (.ref 0)), (1, .inl (.int a_declaration))]) rfl ?_
  refine sf_can (L' := [(0, .inl (.ref 0)), (1, .inl (.int a_declaration)), (2, .inl (.int z35))]) rfl ?_
  exact i_18 w29 z35 Iw29 sw29 (by omega) (by omega) (by rw [c30]; omega) (by rw [c30]; omega) (by rw [c31]; exact sl_W0 rfl (by omega)) (by rw [c32]; exact sl_W0 rfl (by omega)) (by rw [c33]; exact sl_W0 rfl (by omega)) (by rw [c34]; exact sl_W0 rfl (by omega)) (by exact ⟨_, vf, uf⟩) (by omega) (by omega)
