def sm_A_canAssess : List Nat := [11, 12, 55, 56]
set_option maxRecDepth 100000 in
set_option maxHeartbeats 4000000 in
theorem sc_A_canAssess {w0 : wq_W} (hI0 : sf_I w0) {rt : Option wq_V → wq_W → Prop} {xt : Nat → wq_W → Prop} {a_declaration : Int32} (p0 : 0 ≤ a_declaration.toInt) (p1 : a_declaration.toInt ≤ 11) (hR0 : ∀ (r : Int32) (w : wq_W), sf_I w → sf_m sm_A_canAssess w0 w → r.toInt = 0 → rt (some (.inl (.int r))) w) (hR1 : ∀ (r : Int32) (w : wq_W), sf_I w → sf_m sm_A_canAssess w0 w → r.toInt = 1 → (∀ k : Nat, (k : Int) < (sf_a w 38 a_declaration.toInt.toNat).toInt → 0 ≤ (sf_a w 55 k).toInt) → rt (some (.inl (.int r))) w) : ks_A_canAssess [.inl (.ref 51), .inl (.int a_declaration)] w0 rt xt := by
  have hs0 : sf_m sm_A_canAssess w0 w0 := sf_m0
  have hl : ∀ n : Nat, (∀ (w : wq_W) (x2 : Int32) (x3 : Int32) (x4 : Int32), (sf_I w) → (sf_m sm_A_canAssess w0 w) → (0 ≤ x2.toInt) → (x2.toInt ≤ 4) → (0 ≤ x4.toInt) → (x4.toInt ≤ 4) → (x2.toInt = (sf_a w0 38 a_declaration.toInt.toNat).toInt) → (∀ k : Nat, (k : Int) < x4.toInt → 0 ≤ (sf_a w 55 k).toInt) → (4 - x4.toInt < (n : Int)) → ku_A_canAssess rt xt n 23 [(0, .inl (.ref 51)), (1, .inl (.int a_declaration)), (2, .inl (.int x2)), (3, .inl (.int x3)), (4, .inl (.int x4))] [] w 0 0) := by
    intro n
    induction n with
    | zero =>
      refine ?_
      · intros; omega
    | succ n ih =>
      have i_23 := ih
      intro w x2 x3 x4 I_w s_w l_x2 u_x2 l_x4 u_x4 f_0 f_1 hm
      show kh_A_canAssess_23 rt xt (ku_A_canAssess rt xt n) [(0, .inl (.ref 51)), (1, .inl (.int a_declaration)), (2, .inl (.int x2)), (3, .inl (.int x3)), (4, .inl (.int x4))] [] w 0 0
      generalize ku_A_canAssess rt xt n = K at i_23 ⊢
      refine sf_iload rfl ?_
      refine sf_iload rfl ?_
      refine sf_f2_ge (fun h1 => ?_) (fun h1 => ?_)
      · refine sf_iload rfl ?_
        refine sf_f1_le (fun h2 => ?_) (fun h2 => ?_)
        · refine sf_iconst sf_c0 (fun z3 ez3 => ?_)
          refine sf_zreturn (by omega) rfl rfl ?_
          exact hR0 _ _ I_w s_w (by omega) 
        · refine sf_iconst sf_c1 (fun z4 ez4 => ?_)
          refine sf_zreturn (by omega) rfl rfl ?_
          exact hR1 _ _ I_w s_w (by omega) (by rw [sf_ma s_w (p := 38) rfl]; intro k hk; exact f_1 k (by omega))
      · refine sf_iload rfl ?_
        refine sf_iload rfl ?_
        refine sf_call2 rfl rfl rfl ?_
        refine sf_sp (L := [(0, .inl (.int a_declaration)), (1, .inl (.int x4))]) rfl rfl ?_
        refine sf_iload rfl ?_
        refine sf_iconst sf_c4 (fun z5 ez5 => ?_)
        refine sf_imulr (n := 4) (by omega) (by omega) (fun v6 ev6 => ?_)
        refine sf_iload rfl ?_
        refine sf_iadd (by omega) (fun v7 ev7 => ?_)
        refine sf_ireturn rfl rfl ?_
        refine sf_istore (L' := [(0, .inl (.ref 51)), (1, .inl (.int a_declaration)), (2, .inl (.int x2)), (3, .inl (.int x3)), (4, .inl (.int x4))]) rfl ?_
        refine sf_aload rfl ?_
        refine sf_getr I_w rfl rfl ?_
        refine sf_getr I_w rfl rfl ?_
        refine sf_iload rfl ?_
        refine sf_iald I_w rfl (by omega) (fun v8 lv8 uv8 ev8 => ?_)
        clear lv8 uv8
        clear ev8
        refine sf_istore (L' := [(5, .inl (.int v7)), (0, .inl (.ref 51)), (1, .inl (.int a_declaration)), (2, .inl (.int x2)), (3, .inl (.int x3)), (4, .inl (.int x4))]) rfl ?_
        refine sf_aload rfl ?_
        refine sf_getr I_w rfl rfl ?_
        refine sf_aload rfl ?_
        refine sf_getr I_w rfl rfl ?_
        refine sf_getr I_w rfl rfl ?_
        refine sf_iload rfl ?_
        refine sf_iald I_w rfl (by omega) (fun v9 lv9 uv9 ev9 => ?_)
        clear ev9
        refine sf_call2 rfl rfl rfl ?_
        refine sf_rv I_w rfl ?_
        refine sc_T_classOf I_w (by omega) (by omega) (fun v10 w11 Iw11 tw11 lv10 uv10 => ?_)
        have s13 := sf_mt s_w tw11 rfl
        have c14 := sf_ma tw11 (p := 55) rfl
        have g1 := sf_ma tw11 (p := 55) rfl
        refine sf_istore (L' := [(6, .inl (.int v8)), (5, .inl (.int v7)), (0, .inl (.ref 51)), (1, .inl (.int a_declaration)), (2, .inl (.int x2)), (3, .inl (.int x3)), (4, .inl (.int x4))]) rfl ?_
        refine sf_aload rfl ?_
        refine sf_getr Iw11 rfl rfl ?_
        refine sf_iload rfl ?_
        refine sf_iload rfl ?_
        refine sf_iconst sf_cm1 (fun z15 ez15 => ?_)
        refine sf_f2_eq (fun h16 => ?_) (fun h16 => ?_)
        · refine sf_iconst sf_cm1 (fun z17 ez17 => ?_)
          refine sf_iast Iw11 s13 rfl (by omega) (by omega) rfl rfl (fun w18 Iw18 sw18 kw18 uw18 => ?_)
          clear kw18
          have g2 := uw18
          have g4 : (sf_a w18 55 x4.toInt.toNat).toInt = z17.toInt := by rw [uw18]; unfold upd; rw [if_pos rfl]
          refine sf_aload rfl ?_
          refine sf_getr Iw18 rfl rfl ?_
          refine sf_iload rfl ?_
          refine sf_iald Iw18 rfl (by omega) (fun v19 lv19 uv19 ev19 => ?_)
          have g3 := ev19
          refine sf_iconst sf_cm1 (fun z20 ez20 => ?_)
          refine sf_f2_eq (fun h21 => ?_) (fun h21 => ?_)
          · refine sf_iconst sf_c0 (fun z22 ez22 => ?_)
            refine sf_zreturn (by omega) rfl rfl ?_
            exact hR0 _ _ Iw18 sw18 (by omega) 
          · refine sf_aload rfl ?_
            refine sf_getr Iw18 rfl rfl ?_
            refine sf_iload rfl ?_
            refine sf_aload rfl ?_
            refine sf_getr Iw18 rfl rfl ?_
            refine sf_iload rfl ?_
            refine sf_iload rfl ?_
            refine sf_iload rfl ?_
            refine sf_call4 rfl rfl rfl ?_
            refine sf_rv Iw18 rfl ?_
            refine sc_Q_find Iw18 (by omega) (by omega) (fun v23 lv23 uv23 => ?_)
            refine sf_iast Iw18 sw18 rfl (by omega) (by omega) rfl rfl (fun w25 Iw25 sw25 kw25 uw25 => ?_)
            have c26 := sf_ma kw25 (p := 55) rfl
            clear kw25 uw25
            refine sf_iinc (L' := [(7, .inl (.int v10)), (6, .inl (.int v8)), (5, .inl (.int v7)), (0, .inl (.ref 51)), (1, .inl (.int a_declaration)), (2, .inl (.int x2)), (3, .inl (.int x3))]) sf_c1 rfl rfl (by omega) (fun v27 ev27 => ?_)
            refine sf_can (L' := [(0, .inl (.ref 51)), (1, .inl (.int a_declaration)), (2, .inl (.int x2)), (3, .inl (.int x3)), (4, .inl (.int v27))]) rfl ?_
            exact i_23 w25 x2 x3 v27 Iw25 sw25 (by omega) (by omega) (by omega) (by omega) (by omega) (by first | (intro k hk; omega) | (intro k hk; rw [c26]; rw [g2]; by_cases hk2 : k = x4.toInt.toNat; (subst hk2; rw [g2] at g3; omega); (unfold upd; rw [if_neg hk2, g1]; exact f_1 k (by omega)))) (by omega)
        · refine sf_aload rfl ?_
          refine sf_getr Iw11 rfl rfl ?_
          refine sf_iload rfl ?_
          refine sf_iload rfl ?_
          refine sf_iload rfl ?_
          refine sf_call4 rfl rfl rfl ?_
          refine sf_rv Iw11 rfl ?_
          refine sc_R_find Iw11 (by omega) (by omega) (fun v28 lv28 uv28 => ?_)
          refine sf_iast Iw11 s13 rfl (by omega) (by omega) rfl rfl (fun w30 Iw30 sw30 kw30 uw30 => ?_)
          clear kw30
          have g2 := uw30
          have g4 : (sf_a w30 55 x4.toInt.toNat).toInt = v28.toInt := by rw [uw30]; unfold upd; rw [if_pos rfl]
          refine sf_aload rfl ?_
          refine sf_getr Iw30 rfl rfl ?_
          refine sf_iload rfl ?_
          refine sf_iald Iw30 rfl (by omega) (fun v31 lv31 uv31 ev31 => ?_)
          have g3 := ev31
          refine sf_iconst sf_cm1 (fun z32 ez32 => ?_)
          refine sf_f2_eq (fun h33 => ?_) (fun h33 => ?_)
          · refine sf_iconst sf_c0 (fun z34 ez34 => ?_)
            refine sf_zreturn (by omega) rfl rfl ?_
            exact hR0 _ _ Iw30 sw30 (by omega) 
          · refine sf_aload rfl ?_
            refine sf_getr Iw30 rfl rfl ?_
            refine sf_iload rfl ?_
            refine sf_aload rfl ?_
            refine sf_getr Iw30 rfl rfl ?_
            refine sf_iload rfl ?_
            refine sf_iload rfl ?_
            refine sf_iload rfl ?_
            refine sf_call4 rfl rfl rfl ?_
            refine sf_rv Iw30 rfl ?_
            refine sc_Q_find Iw30 (by omega) (by omega) (fun v35 lv35 uv35 => ?_)
            refine sf_iast Iw30 sw30 rfl (by omega) (by omega) rfl rfl (fun w37 Iw37 sw37 kw37 uw37 => ?_)
            have c38 := sf_ma kw37 (p := 55) rfl
            clear kw37 uw37
            refine sf_iinc (L' := [(7, .inl (.int v10)), (6, .inl (.int v8)), (5, .inl (.int v7)), (0, .inl (.ref 51)), (1, .inl (.int a_declaration)), (2, .inl (.int x2)), (3, .inl (.int x3))]) sf_c1 rfl rfl (by omega) (fun v39 ev39 => ?_)
            refine sf_can (L' := [(0, .inl (.ref 51)), (1, .inl (.int a_declaration)), (2, .inl (.int x2)), (3, .inl (.int x3)), (4, .inl (.int v39))]) rfl ?_
            exact i_23 w37 x2 x3 v39 Iw37 sw37 (by omega) (by omega) (by omega) (by omega) (by omega) (by first | (intro k hk; omega) | (intro k hk; rw [c38]; rw [g2]; by_cases hk2 : k = x4.toInt.toNat; (subst hk2; rw [g2] at g3; omega); (unfold upd; rw [if_neg hk2, g1]; exact f_1 k (by omega)))) (by omega)
  have hl1 := hl 1000000000000
  have i_23 := hl1
  clear hl hl1
  refine sf_sp (L := [(0, .inl (.ref 51)), (1, .inl (.int a_declaration))]) rfl rfl ?_
  generalize ku_A_canAssess rt xt 1000000000000 = K at i_23 ⊢
  refine sf_aload rfl ?_
  refine sf_getr hI0 rfl rfl ?_
  refine sf_getr hI0 rfl rfl ?_
  refine sf_iload rfl ?_
  refine sf_iald hI0 rfl (by omega) (fun v40 lv40 uv40 ev40 => ?_)
  refine sf_istore (L' := [(0, .inl (.ref 51)), (1, .inl (.int a_declaration))]) rfl ?_
  refine sf_aload rfl ?_
  refine sf_getr hI0 rfl rfl ?_
  refine sf_getr hI0 rfl rfl ?_
  refine sf_iload rfl ?_
  refine sf_iald hI0 rfl (by omega) (fun v41 lv41 uv41 ev41 => ?_)
  clear lv41 uv41
  clear ev41
  refine sf_istore (L' := [(2, .inl (.int v40)), (0, .inl (.ref 51)), (1, .inl (.int a_declaration))]) rfl ?_
  refine sf_iconst sf_c0 (fun z42 ez42 => ?_)
  refine sf_istore (L' := [(3, .inl (.int v41)), (2, .inl (.int v40)), (0, .inl (.ref 51)), (1, .inl (.int a_declaration))]) rfl ?_
  refine sf_can (L' := [(0, .inl (.ref 51)), (1, .inl (.int a_declaration)), (2, .inl (.int v40)), (3, .inl (.int v41)), (4, .inl (.int z42))]) rfl ?_
  exact i_23 w0 v40 v41 z42 hI0 hs0 (by omega) (by omega) (by omega) (by omega) (by omega) (by first | (intro k hk; omega) | (intro k hk; rw [g2]; by_cases hk2 : k = x4.toInt.toNat; (subst hk2; rw [g2] at g3; omega); (unfold upd; rw [if_neg hk2, g1]; exact f_1 k (by omega)))) (by omega)
def sm_B_hasGoneUnits : List Nat := []
set_option maxRecDepth 100000 in
set_option maxHeartbeats 4000000 in
theorem sc_B_hasGoneUnits {w0 : wq_W} (hI0 : sf_I w0) {rt : Option wq_V → wq_W → Prop} {xt : Nat → wq_W → Prop} {a_declaration : Int32} (p0 : 0 ≤ a_declaration.toInt) (p1 : a_declaration.toInt ≤ 11) (hR : ∀ (r : Int32), 0 ≤ r.toInt → r.toInt ≤ 1 → rt (some (.inl (.int r))) w0) : ks_B_hasGoneUnits [.inl (.ref 0), .inl (.int a_declaration)] w0 rt xt := by
  have hl : ∀ n : Nat, (∀ (x2 : Int32), (0 ≤ x2.toInt) → (x2.toInt ≤ 4) → (4 - x2.toInt < (n : Int)) → ku_B_hasGoneUnits rt xt n 2 [(0, .inl (.ref 0)), (1, .inl (.int a_declaration)), (2, .inl (.int x2))] [] w0 0 0) := by
    intro n
    induction n with
    | zero =>
      refine ?_
      · intros; omega
    | succ n ih =>
      have i_2 := ih
      intro x2 l_x2 u_x2 hm
      show kh_B_hasGoneUnits_2 rt xt (ku_B_hasGoneUnits rt xt n) [(0, .inl (.ref 0)), (1, .inl (.int a_declaration)), (2, .inl (.int x2))] [] w0 0 0
      generalize ku_B_hasGoneUnits rt xt n = K at i_2 ⊢
      have r3 := (sf_R3 hI0 (d := a_declaration) (by omega)).1
      refine sf_iload rfl ?_
      refine sf_aload rfl ?_
      refine sf_getr hI0 rfl rfl ?_
      refine sf_getr hI0 rfl rfl ?_
      refine sf_iload rfl ?_
      refine sf_iald hI0 rfl (by omega) (fun v1 lv1 uv1 ev1 => ?_)
      refine sf_f2_ge (fun h2 => ?_) (fun h2 => ?_)
      · refine sf_iconst sf_c0 (fun z3 ez3 => ?_)
        refine sf_zreturn (by omega) rfl rfl ?_
        exact hR _ (by omega) (by omega) 
      · refine sf_aload rfl ?_
        refine sf_getr hI0 rfl rfl ?_
        refine sf_getr hI0 rfl rfl ?_
        refine sf_aload rfl ?_
        refine sf_getr hI0 rfl rfl ?_
        refine sf_getr hI0 rfl rfl ?_
        refine sf_iload rfl ?_
        refine sf_iald hI0 rfl (by omega) (fun v4 lv4 uv4 ev4 => ?_)
        refine sf_iload rfl ?_
        refine sf_iadd (by omega) (fun v5 ev5 => ?_)
        refine sf_iald hI0 rfl (by omega) (fun v6 lv6 uv6 ev6 => ?_)
        clear lv6 uv6
        clear ev6
        refine sf_f1_le (fun h7 => ?_) (fun h7 => ?_)
        · refine sf_iinc (L' := [(0, .inl (.ref 0)), (1, .inl (.int a_declaration))]) sf_c1 rfl rfl (by omega) (fun v8 ev8 => ?_)
          refine sf_can (L' := [(0, .inl (.ref 0)), (1, .inl (.int a_declaration)), (2, .inl (.int v8))]) rfl ?_
          exact i_2 v8 (by omega) (by omega) (by omega)
        · refine sf_iconst sf_c1 (fun z9 ez9 => ?_)
          refine sf_zreturn (by omega) rfl rfl ?_
          exact hR _ (by omega) (by omega) 
  have hl1 := hl 1000000000000
  have i_2 := hl1
  clear hl hl1
  refine sf_sp (L := [(0, .inl (.ref 0)), (1, .inl (.int a_declaration))]) rfl rfl ?_
  generalize ku_B_hasGoneUnits rt xt 1000000000000 = K at i_2 ⊢
  refine sf_iconst sf_c0 (fun z10 ez10 => ?_)
  refine sf_istore (L' := [(0, .inl (.ref 0)), (1, .inl (.int a_declaration))]) rfl ?_
  refine sf_can (L' := [(0, .inl (.ref 0)), (1, .inl (.int a_declaration)), (2, .inl (.int z10))]) rfl ?_
  exact i_2 z10 (by omega) (by omega) (by omega)
def sm_B_changeLots : List Nat := [62, 64, 67, 7700]
set_option maxRecDepth 100000 in
set_option maxHeartbeats 4000000 in
theorem sc_B_changeLots {w0 : wq_W} (hI0 : sf_I w0) {rt : Option wq_V → wq_W → Prop} {xt : Nat → wq_W → Prop} {a_declaration : Int32} (p0 : 0 ≤ a_declaration.toInt) (p1 : a_declaration.toInt ≤ 11) (hR : ∀ (w : wq_W), sf_I w → sf_m sm_B_changeLots w0 w → rt none w) : ks_B_changeLots [.inl (.ref 0), .inl (.int a_declaration)] w0 rt xt := by
  have hs0 : sf_m sm_B_changeLots w0 w0 := sf_m0
  have hl : ∀ n : Nat, (∀ (w : wq_W) (x2 : Int32), (sf_I w) → (sf_m sm_B_changeLots w0 w) → (0 ≤ x2.toInt) → (x2.toInt ≤ 4) → (4 - x2.toInt < (n : Int)) → ku_B_changeLots rt xt n 2 [(0, .inl (.ref 0)), (1, .inl (.int a_declaration)), (2, .inl (.int x2))] [] w 0 0) := by
    intro n
    induction n with
    | zero =>
      refine ?_
      · intros; omega
    | succ n ih =>
      have i_2 := ih
      intro w x2 I_w s_w l_x2 u_x2 hm
      show kh_B_changeLots_2 rt xt (ku_B_changeLots rt xt n) [(0, .inl (.ref 0)), (1, .inl (.int a_declaration)), (2, .inl (.int x2))] [] w 0 0
      generalize ku_B_changeLots rt xt n = K at i_2 ⊢
      have r3 := (sf_R3 I_w (d := a_declaration) (by omega)).1
      rw [sf_ma s_w (p := 38) rfl] at r3
      rw [sf_ma s_w (p := 41) rfl] at r3
      refine sf_iload rfl ?_
      refine sf_aload rfl ?_
      refine sf_getr I_w rfl rfl ?_
      refine sf_getr I_w rfl rfl ?_
      refine sf_iload rfl ?_
      refine sf_iald I_w rfl (by omega) (fun v1 lv1 uv1 ev1 => ?_)
      rw [sf_ma s_w (p := 38) rfl] at ev1
      refine sf_f2_ge (fun h2 => ?_) (fun h2 => ?_)
      · refine sf_vreturn rfl rfl ?_
        exact hR _ I_w s_w 
      · refine sf_iload rfl ?_
        refine sf_iload rfl ?_
        refine sf_call2 rfl rfl rfl ?_
        refine sf_sp (L := [(0, .inl (.int a_declaration)), (1, .inl (.int x2))]) rfl rfl ?_
        refine sf_iload rfl ?_
        refine sf_iconst sf_c4 (fun z3 ez3 => ?_)
        refine sf_imulr (n := 4) (by omega) (by omega) (fun v4 ev4 => ?_)
        refine sf_iload rfl ?_
        refine sf_iadd (by omega) (fun v5 ev5 => ?_)
        refine sf_ireturn rfl rfl ?_
        refine sf_istore (L' := [(0, .inl (.ref 0)), (1, .inl (.int a_declaration)), (2, .inl (.int x2))]) rfl ?_
        refine sf_aload rfl ?_
        refine sf_getr I_w rfl rfl ?_
        refine sf_getr I_w rfl rfl ?_
        refine sf_iload rfl ?_
        refine sf_iald I_w rfl (by omega) (fun v6 lv6 uv6 ev6 => ?_)
        rw [sf_ma s_w (p := 41) rfl] at ev6
        refine sf_iload rfl ?_
        refine sf_iadd (by omega) (fun v7 ev7 => ?_)
        refine sf_istore (L' := [(3, .inl (.int v5)), (0, .inl (.ref 0)), (1, .inl (.int a_declaration)), (2, .inl (.int x2))]) rfl ?_
        refine sf_aload rfl ?_
        refine sf_getr I_w rfl rfl ?_
        refine sf_getr I_w rfl rfl ?_
        refine sf_iload rfl ?_
        refine sf_zald I_w rfl (by omega) (fun v8 lv8 uv8 ev8 => ?_)
        clear ev8
        refine sf_f1_eq (fun h9 => ?_) (fun h9 => ?_)
        · refine sf_aload rfl ?_
          refine sf_getr I_w rfl rfl ?_
          refine sf_dup rfl ?_
          refine sf_getl I_w rfl rfl (fun v10 => ?_)
          refine sf_aload rfl ?_
          refine sf_getr I_w rfl rfl ?_
          refine sf_getr I_w rfl rfl ?_
          refine sf_iload rfl ?_
          refine sf_lald I_w rfl (by omega) (fun v11 ev11 => ?_)
          clear ev11
          refine sf_aload rfl ?_
          refine sf_getr I_w rfl rfl ?_
          refine sf_getr I_w rfl rfl ?_
          refine sf_iload rfl ?_
          refine sf_lald I_w rfl (by omega) (fun v12 ev12 => ?_)
          clear ev12
          refine sf_l2 (fun v13 => ?_)
          refine sf_l2 (fun v14 => ?_)
          refine sf_putl I_w s_w rfl rfl rfl rfl rfl (fun w15 Iw15 sw15 kw15 uw15 => ?_)
          clear kw15 uw15
          refine sf_aload rfl ?_
          refine sf_getr Iw15 rfl rfl ?_
          refine sf_getr Iw15 rfl rfl ?_
          refine sf_iload rfl ?_
          refine sf_aload rfl ?_
          refine sf_getr Iw15 rfl rfl ?_
          refine sf_getr Iw15 rfl rfl ?_
          refine sf_iload rfl ?_
          refine sf_iald Iw15 rfl (by omega) (fun v16 lv16 uv16 ev16 => ?_)
          clear lv16 uv16
          clear ev16
          refine sf_iast Iw15 sw15 rfl (by omega) (sf_bd _) rfl rfl (fun w17 Iw17 sw17 kw17 uw17 => ?_)
          clear kw17 uw17
          refine sf_aload rfl ?_
          refine sf_getr Iw17 rfl rfl ?_
          refine sf_getr Iw17 rfl rfl ?_
          refine sf_iload rfl ?_
          refine sf_aload rfl ?_
          refine sf_getr Iw17 rfl rfl ?_
          refine sf_getr Iw17 rfl rfl ?_
          refine sf_iload rfl ?_
          refine sf_lald Iw17 rfl (by omega) (fun v18 ev18 => ?_)
          clear ev18
          refine sf_last Iw17 sw17 rfl (by omega) rfl rfl (fun w19 Iw19 sw19 kw19 uw19 => ?_)
          clear kw19 uw19
          refine sf_iinc (L' := [(4, .inl (.int v7)), (3, .inl (.int v5)), (0, .inl (.ref 0)), (1, .inl (.int a_declaration))]) sf_c1 rfl rfl (by omega) (fun v20 ev20 => ?_)
          refine sf_can (L' := [(0, .inl (.ref 0)), (1, .inl (.int a_declaration)), (2, .inl (.int v20))]) rfl ?_
          exact i_2 w19 v20 Iw19 sw19 (by omega) (by omega) (by omega)
        · refine sf_aload rfl ?_
          refine sf_getr I_w rfl rfl ?_
          refine sf_getr I_w rfl rfl ?_
          refine sf_iload rfl ?_
          refine sf_aload rfl ?_
          refine sf_getr I_w rfl rfl ?_
          refine sf_getr I_w rfl rfl ?_
          refine sf_iload rfl ?_
          refine sf_iald I_w rfl (by omega) (fun v21 lv21 uv21 ev21 => ?_)
          clear lv21 uv21
          clear ev21
          refine sf_iast I_w s_w rfl (by omega) (sf_bd _) rfl rfl (fun w22 Iw22 sw22 kw22 uw22 => ?_)
          clear kw22 uw22
          refine sf_aload rfl ?_
          refine sf_getr Iw22 rfl rfl ?_
          refine sf_getr Iw22 rfl rfl ?_
          refine sf_iload rfl ?_
          refine sf_aload rfl ?_
          refine sf_getr Iw22 rfl rfl ?_
          refine sf_getr Iw22 rfl rfl ?_
          refine sf_iload rfl ?_
          refine sf_lald Iw22 rfl (by omega) (fun v23 ev23 => ?_)
          clear ev23
          refine sf_last Iw22 sw22 rfl (by omega) rfl rfl (fun w24 Iw24 sw24 kw24 uw24 => ?_)
          clear kw24 uw24
          refine sf_iinc (L' := [(4, .inl (.int v7)), (3, .inl (.int v5)), (0, .inl (.ref 0)), (1, .inl (.int a_declaration))]) sf_c1 rfl rfl (by omega) (fun v25 ev25 => ?_)
          refine sf_can (L' := [(0, .inl (.ref 0)), (1, .inl (.int a_declaration)), (2, .inl (.int v25))]) rfl ?_
          exact i_2 w24 v25 Iw24 sw24 (by omega) (by omega) (by omega)
  have hl1 := hl 1000000000000
  have i_2 := hl1
  clear hl hl1
  refine sf_sp (L := [(0, .inl (.ref 0)), (1, .inl (.int a_declaration))]) rfl rfl ?_
  generalize ku_B_changeLots rt xt 1000000000000 = K at i_2 ⊢
  refine sf_iconst sf_c0 (fun z26 ez26 => ?_)
  refine sf_istore (L' := [(0, .inl (.ref 0)), (1, .inl (.int a_declaration))]) rfl ?_
  refine sf_can (L' := [(0, .inl (.ref 0)), (1, .inl (.int a_declaration)), (2, .inl (.int z26))]) rfl ?_
  exact i_2 w0 z26 hI0 hs0 (by omega) (by omega) (by omega)
def sm_B_makeLots : List Nat := [41, 60, 61, 62, 64, 65, 66, 67, 7000, 7700]
set_option maxRecDepth 100000 in
set_option maxHeartbeats 4000000 in
theorem sc_B_makeLots {w0 : wq_W} (hI0 : sf_I w0) {rt : Option wq_V → wq_W → Prop} {xt : Nat → wq_W → Prop} {a_declaration : Int32} (p0 : 0 ≤ a_declaration.toInt) (p1 : a_declaration.toInt ≤ 11) (p2 : (sf_f w0 60 0).toInt + (sf_a w0 38 a_declaration.toInt.toNat).toInt ≤ 40) (p3 : (sf_a w0 40 a_declaration.toInt.toNat).toInt = 1) (hR : ∀ (w : wq_W), sf_I w → sf_m sm_B_makeLots w0 w → rt none w) : ks_B_makeLots [.inl (.ref 0), .inl (.int a_declaration)] w0 rt xt := by
  have hs0 : sf_m sm_B_makeLots w0 w0 := sf_m0
  have hl : ∀ n : Nat, (∀ (w : wq_W) (x2 : Int32), (sf_I w) → (sf_m sm_B_makeLots w0 w) → (0 ≤ x2.toInt) → (x2.toInt ≤ 4) → ((sf_f w 60 0).toInt + (sf_a w0 38 a_declaration.toInt.toNat).toInt - x2.toInt ≤ 40) → (4 - x2.toInt < (n : Int)) → ku_B_makeLots rt xt n 18 [(0, .inl (.ref 0)), (1, .inl (.int a_declaration)), (2, .inl (.int x2))] [] w 0 0) := by
    intro n
    induction n with
    | zero =>
      refine ?_
      · intros; omega
    | succ n ih =>
      have i_18 := ih
      intro w x2 I_w s_w l_x2 u_x2 f_0 hm
      show kh_B_makeLots_18 rt xt (ku_B_makeLots rt xt n) [(0, .inl (.ref 0)), (1, .inl (.int a_declaration)), (2, .inl (.int x2))] [] w 0 0
      generalize ku_B_makeLots rt xt n = K at i_18 ⊢
      refine sf_iload rfl ?_
      refine sf_aload rfl ?_
      refine sf_getr I_w rfl rfl ?_
      refine sf_getr I_w rfl rfl ?_
      refine sf_iload rfl ?_
      refine sf_iald I_w rfl (by omega) (fun v1 lv1 uv1 ev1 => ?_)
      rw [sf_ma s_w (p := 38) rfl] at ev1
      refine sf_f2_ge (fun h2 => ?_) (fun h2 => ?_)
      · refine sf_vreturn rfl rfl ?_
        exact hR _ I_w s_w 
      · refine sf_iload rfl ?_
        refine sf_iload rfl ?_
        refine sf_call2 rfl rfl rfl ?_
        refine sf_sp (L := [(0, .inl (.int a_declaration)), (1, .inl (.int x2))]) rfl rfl ?_
        refine sf_iload rfl ?_
        refine sf_iconst sf_c4 (fun z3 ez3 => ?_)
        refine sf_imulr (n := 4) (by omega) (by omega) (fun v4 ev4 => ?_)
        refine sf_iload rfl ?_
        refine sf_iadd (by omega) (fun v5 ev5 => ?_)
        refine sf_ireturn rfl rfl ?_
        refine sf_istore (L' := [(0, .inl (.ref 0)), (1, .inl (.int a_declaration)), (2, .inl (.int x2))]) rfl ?_
        refine sf_aload rfl ?_
        refine sf_getr I_w rfl rfl ?_
        refine sf_getr I_w rfl rfl ?_
        refine sf_iload rfl ?_
        refine sf_zald I_w rfl (by omega) (fun v6 lv6 uv6 ev6 => ?_)
        clear ev6
        refine sf_istore (L' := [(3, .inl (.int v5)), (0, .inl (.ref 0)), (1, .inl (.int a_declaration)), (2, .inl (.int x2))]) rfl ?_
        refine sf_aload rfl ?_
        refine sf_getr I_w rfl rfl ?_
        refine sf_getr I_w rfl rfl ?_
        refine sf_iload rfl ?_
        refine sf_lald I_w rfl (by omega) (fun v7 ev7 => ?_)
        clear ev7
        refine sf_lstore (L' := [(4, .inl (.int v6)), (3, .inl (.int v5)), (0, .inl (.ref 0)), (1, .inl (.int a_declaration)), (2, .inl (.int x2))]) rfl ?_
        refine sf_aload rfl ?_
        refine sf_getr I_w rfl rfl ?_
        refine sf_aload rfl ?_
        refine sf_getr I_w rfl rfl ?_
        refine sf_getr I_w rfl rfl ?_
        refine sf_iload rfl ?_
        refine sf_iald I_w rfl (by omega) (fun v8 lv8 uv8 ev8 => ?_)
        clear ev8
        refine sf_aload rfl ?_
        refine sf_getr I_w rfl rfl ?_
        refine sf_getr I_w rfl rfl ?_
        refine sf_iload rfl ?_
        refine sf_iald I_w rfl (by omega) (fun v9 lv9 uv9 ev9 => ?_)
        clear lv9 uv9
        clear ev9
        refine sf_lload rfl ?_
        refine sf_iload rfl ?_
        refine sf_iconst sf_c0 (fun z10 ez10 => ?_)
        refine sf_call6 rfl rfl rfl ?_
        refine sf_rv I_w rfl ?_
        refine sc_L_add I_w (by omega) (by omega) (by omega) (by omega) (by omega) (fun v11 w12 Iw12 tw12 lv11 uv11 q13_0 => ?_)
        have s14 := sf_mt s_w tw12 rfl
        refine sf_pop rfl ?_
        refine sf_iload rfl ?_
        refine sf_f1_eq (fun h15 => ?_) (fun h15 => ?_)
        · refine sf_aload rfl ?_
          refine sf_getr Iw12 rfl rfl ?_
          refine sf_dup rfl ?_
          refine sf_getl Iw12 rfl rfl (fun v16 => ?_)
          refine sf_lload rfl ?_
          refine sf_l2 (fun v17 => ?_)
          refine sf_putl Iw12 s14 rfl rfl rfl rfl rfl (fun w18 Iw18 sw18 kw18 uw18 => ?_)
          have c19 := sf_mf kw18 (p := 60) (j := 0) rfl
          clear kw18 uw18
          refine sf_iinc (L' := [(5, .inl (.long v7)), (4, .inl (.int v6)), (3, .inl (.int v5)), (0, .inl (.ref 0)), (1, .inl (.int a_declaration))]) sf_c1 rfl rfl (by omega) (fun v20 ev20 => ?_)
          refine sf_can (L' := [(0, .inl (.ref 0)), (1, .inl (.int a_declaration)), (2, .inl (.int v20))]) rfl ?_
          exact i_18 w18 v20 Iw18 sw18 (by omega) (by omega) (by rw [c19]; omega) (by omega)
        · refine sf_iinc (L' := [(5, .inl (.long v7)), (4, .inl (.int v6)), (3, .inl (.int v5)), (0, .inl (.ref 0)), (1, .inl (.int a_declaration))]) sf_c1 rfl rfl (by omega) (fun v21 ev21 => ?_)
          refine sf_can (L' := [(0, .inl (.ref 0)), (1, .inl (.int a_declaration)), (2, .inl (.int v21))]) rfl ?_
          exact i_18 w12 v21 Iw12 s14 (by omega) (by omega) (by omega) (by omega)
  have hl1 := hl 1000000000000
  have i_18 := hl1
  clear hl hl1
  refine sf_sp (L := [(0, .inl (.ref 0)), (1, .inl (.int a_declaration))]) rfl rfl ?_
  generalize ku_B_makeLots rt xt 1000000000000 = K at i_18 ⊢
  refine sf_aload rfl ?_
  refine sf_getr hI0 rfl rfl ?_
  refine sf_getr hI0 rfl rfl ?_
  refine sf_iload rfl ?_
  refine sf_aload rfl ?_
  refine sf_getr hI0 rfl rfl ?_
  refine sf_geti hI0 rfl rfl (fun v22 lv22 uv22 ev22 => ?_)
  refine sf_iastR hI0 hs0 rfl (by omega) (by omega) rfl (fun w9 h1 h2 => sf_R_fl hI0 h1 h2 (by omega) (by omega)) (fun w23 Iw23 sw23 kw23 uw23 => ?_)
  have c24 := sf_mf kw23 (p := 60) (j := 0) rfl
  clear kw23 uw23
  refine sf_iconst sf_c0 (fun z25 ez25 => ?_)
  refine sf_istore (L' := [(0, .inl (.ref 0)), (1, .inl (.int a_declaration))]) rfl ?_
  refine sf_can (L' := [(0, .inl (.ref 0)), (1, .inl (.int a_declaration)), (2, .inl (.int z25))]) rfl ?_
  exact i_18 w23 z25 Iw23 sw23 (by omega) (by omega) (by rw [c24]; omega) (by omega)
