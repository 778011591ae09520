def sm_M_assess : List Nat := [92, 111, 112, 119, 120]
set_option maxRecDepth 100000 in
set_option maxHeartbeats 4000000 in
theorem sc_M_assess {w0 : wq_W} (hI0 : sf_I w0) {rt : Option wq_V → wq_W → Prop} {xt : Nat → wq_W → Prop} {a_d : Int32} (p0 : 0 ≤ a_d.toInt) (p1 : a_d.toInt ≤ 11) (p2 : ∀ k : Nat, (k : Int) < (sf_a w0 104 a_d.toInt.toNat).toInt → 0 ≤ (sf_a w0 117 k).toInt) (hR : ∀ (r : Int64) (w : wq_W), sf_I w → sf_m sm_M_assess w0 w → rt (some (.inl (.long r))) w) : ks_M_assess [.inl (.ref 71), .inl (.int a_d)] w0 rt xt := by
  have hs0 : sf_m sm_M_assess w0 w0 := sf_m0
  have hl : ∀ n : Nat, (∀ (w : wq_W) (x2 : Int32), (sf_I w) → (sf_m sm_M_assess w0 w) → (0 ≤ x2.toInt) → (x2.toInt ≤ 4) → (4 - x2.toInt < (n : Int)) → ku_M_assess rt xt n 6 [(0, .inl (.ref 71)), (1, .inl (.int a_d)), (2, .inl (.int x2))] [] w 0 0) := by
    intro n
    induction n with
    | zero =>
      refine ?_
      · intros; omega
    | succ n ih =>
      have i_6 := ih
      intro w x2 I_w s_w l_x2 u_x2 hm
      show kh_M_assess_6 rt xt (ku_M_assess rt xt n) [(0, .inl (.ref 71)), (1, .inl (.int a_d)), (2, .inl (.int x2))] [] w 0 0
      generalize ku_M_assess rt xt n = K at i_6 ⊢
      refine sf_iload rfl ?_
      refine sf_iconst sf_c4 (fun z1 ez1 => ?_)
      refine sf_f2_ge (fun h2 => ?_) (fun h2 => ?_)
      · refine sf_aload rfl ?_
        refine sf_iload rfl ?_
        refine sf_call2 rfl rfl rfl ?_
        refine sf_rv I_w rfl ?_
        refine sc_M_workOut I_w (by omega) (by omega) (by rw [sf_ma s_w (p := 104) rfl]; rw [sf_ma s_w (p := 117) rfl]; exact p2) (fun v3 w4 Iw4 tw4 => ?_)
        have s6 := sf_mt s_w tw4 rfl
        refine sf_lreturn rfl rfl ?_
        exact hR _ _ Iw4 s6 
      · refine sf_aload rfl ?_
        refine sf_getr I_w rfl rfl ?_
        refine sf_iload rfl ?_
        refine sf_iconst sf_c0 (fun z7 ez7 => ?_)
        refine sf_iast I_w s_w rfl (by omega) (sf_bd _) rfl rfl (fun w8 Iw8 sw8 kw8 uw8 => ?_)
        clear kw8 uw8
        refine sf_iinc (L' := [(0, .inl (.ref 71)), (1, .inl (.int a_d))]) sf_c1 rfl rfl (by omega) (fun v9 ev9 => ?_)
        refine sf_can (L' := [(0, .inl (.ref 71)), (1, .inl (.int a_d)), (2, .inl (.int v9))]) rfl ?_
        exact i_6 w8 v9 Iw8 sw8 (by omega) (by omega) (by omega)
  have hl1 := hl 1000000000000
  have i_6 := hl1
  clear hl hl1
  refine sf_sp (L := [(0, .inl (.ref 71)), (1, .inl (.int a_d))]) rfl rfl ?_
  generalize ku_M_assess rt xt 1000000000000 = K at i_6 ⊢
  refine sf_aload rfl ?_
  refine sf_call1 rfl rfl rfl ?_
  refine sf_rv hI0 rfl ?_
  refine sc_M_mean hI0  (fun w10 Iw10 tw10 => ?_)
  have s12 := sf_mt hs0 tw10 rfl
  refine sf_iconst sf_c0 (fun z13 ez13 => ?_)
  refine sf_istore (L' := [(0, .inl (.ref 71)), (1, .inl (.int a_d))]) rfl ?_
  refine sf_can (L' := [(0, .inl (.ref 71)), (1, .inl (.int a_d)), (2, .inl (.int z13))]) rfl ?_
  exact i_6 w10 z13 Iw10 s12 (by omega) (by omega) (by omega)
def sm_M_book : List Nat := [91, 114, 115, 116]
set_option maxRecDepth 100000 in
set_option maxHeartbeats 4000000 in
theorem sc_M_book {w0 : wq_W} (hI0 : sf_I w0) {rt : Option wq_V → wq_W → Prop} {xt : Nat → wq_W → Prop} {a_d : Int32} (p0 : 0 ≤ a_d.toInt) (p1 : a_d.toInt ≤ 11) (hR : ∀ (w : wq_W), sf_I w → sf_m sm_M_book w0 w → rt none w) : ks_M_book [.inl (.ref 71), .inl (.int a_d)] w0 rt xt := by
  have hs0 : sf_m sm_M_book w0 w0 := sf_m0
  have hl : ∀ n : Nat, (∀ (w : wq_W) (x2 : Int32), (sf_I w) → (sf_m sm_M_book w0 w) → (0 ≤ x2.toInt) → (x2.toInt ≤ 8) → (20 - x2.toInt < (n : Int)) → ku_M_book rt xt n 2 [(0, .inl (.ref 71)), (1, .inl (.int a_d)), (2, .inl (.int x2))] [] w 0 0) ∧ (∀ (w : wq_W) (x2 : Int32), (sf_I w) → (sf_m sm_M_book w0 w) → (0 ≤ x2.toInt) → (x2.toInt ≤ 4) → (4 - x2.toInt < (n : Int)) → ku_M_book rt xt n 30 [(0, .inl (.ref 71)), (1, .inl (.int a_d)), (2, .inl (.int x2))] [] w 0 0) := by
    intro n
    induction n with
    | zero =>
      refine ⟨?_, ?_⟩
      · intros; omega
      · intros; omega
    | succ n ih =>
      obtain ⟨i_2, i_30⟩ := ih
      refine ⟨?_, ?_⟩
      · intro w x2 I_w s_w l_x2 u_x2 hm
        show kh_M_book_2 rt xt (ku_M_book rt xt n) [(0, .inl (.ref 71)), (1, .inl (.int a_d)), (2, .inl (.int x2))] [] w 0 0
        generalize ku_M_book rt xt n = K at i_2 i_30 ⊢
        refine sf_iload rfl ?_
        refine sf_aload rfl ?_
        refine sf_geti I_w rfl rfl (fun v1 lv1 uv1 ev1 => ?_)
        rw [sf_mf s_w (p := 71) (j := 18) rfl] at ev1
        refine sf_f2_ge (fun h2 => ?_) (fun h2 => ?_)
        · refine sf_iconst sf_c0 (fun z3 ez3 => ?_)
          refine sf_istore (L' := [(0, .inl (.ref 71)), (1, .inl (.int a_d))]) rfl ?_
          refine sf_can (L' := [(0, .inl (.ref 71)), (1, .inl (.int a_d)), (2, .inl (.int z3))]) rfl ?_
          exact i_30 w z3 I_w s_w (by omega) (by omega) (by omega)
        · refine sf_aload rfl ?_
          refine sf_getr I_w rfl rfl ?_
          refine sf_iload rfl ?_
          refine sf_aload rfl ?_
          refine sf_getr I_w rfl rfl ?_
          refine sf_iload rfl ?_
          refine sf_iald I_w rfl (by omega) (fun v4 lv4 uv4 ev4 => ?_)
          clear lv4 uv4
          clear ev4
          refine sf_iast I_w s_w rfl (by omega) (sf_bd _) rfl rfl (fun w5 Iw5 sw5 kw5 uw5 => ?_)
          clear kw5 uw5
          refine sf_iinc (L' := [(0, .inl (.ref 71)), (1, .inl (.int a_d))]) sf_c1 rfl rfl (by omega) (fun v6 ev6 => ?_)
          refine sf_can (L' := [(0, .inl (.ref 71)), (1, .inl (.int a_d)), (2, .inl (.int v6))]) rfl ?_
          exact i_2 w5 v6 Iw5 sw5 (by omega) (by omega) (by omega)
      · intro w x2 I_w s_w l_x2 u_x2 hm
        show kh_M_book_30 rt xt (ku_M_book rt xt n) [(0, .inl (.ref 71)), (1, .inl (.int a_d)), (2, .inl (.int x2))] [] w 0 0
        generalize ku_M_book rt xt n = K at i_2 i_30 ⊢
        refine sf_iload rfl ?_
        refine sf_aload rfl ?_
        refine sf_getr I_w rfl rfl ?_
        refine sf_iload rfl ?_
        refine sf_iald I_w rfl (by omega) (fun v7 lv7 uv7 ev7 => ?_)
        rw [sf_ma s_w (p := 104) rfl] at ev7
        refine sf_f2_ge (fun h8 => ?_) (fun h8 => ?_)
        · refine sf_vreturn rfl rfl ?_
          exact hR _ I_w s_w 
        · refine sf_aload rfl ?_
          refine sf_getr I_w rfl rfl ?_
          refine sf_iconst sf_c4 (fun z9 ez9 => ?_)
          refine sf_iload rfl ?_
          refine sf_imull (n := 4) (by omega) (by omega) (fun v10 ev10 => ?_)
          refine sf_iload rfl ?_
          refine sf_iadd (by omega) (fun v11 ev11 => ?_)
          refine sf_aload rfl ?_
          refine sf_getr I_w rfl rfl ?_
          refine sf_iload rfl ?_
          refine sf_iald I_w rfl (by omega) (fun v12 lv12 uv12 ev12 => ?_)
          rw [sf_ma s_w (p := 118) rfl] at ev12
          refine sf_iast I_w s_w rfl (by omega) (by omega) rfl rfl (fun w13 Iw13 sw13 kw13 uw13 => ?_)
          clear kw13 uw13
          refine sf_aload rfl ?_
          refine sf_getr Iw13 rfl rfl ?_
          refine sf_iconst sf_c4 (fun z14 ez14 => ?_)
          refine sf_iload rfl ?_
          refine sf_imull (n := 4) (by omega) (by omega) (fun v15 ev15 => ?_)
          refine sf_iload rfl ?_
          refine sf_iadd (by omega) (fun v16 ev16 => ?_)
          refine sf_aload rfl ?_
          refine sf_getr Iw13 rfl rfl ?_
          refine sf_iload rfl ?_
          refine sf_iald Iw13 rfl (by omega) (fun v17 lv17 uv17 ev17 => ?_)
          clear lv17 uv17
          clear ev17
          refine sf_iast Iw13 sw13 rfl (by omega) (sf_bd _) rfl rfl (fun w18 Iw18 sw18 kw18 uw18 => ?_)
          clear kw18 uw18
          refine sf_aload rfl ?_
          refine sf_getr Iw18 rfl rfl ?_
          refine sf_iconst sf_c4 (fun z19 ez19 => ?_)
          refine sf_iload rfl ?_
          refine sf_imull (n := 4) (by omega) (by omega) (fun v20 ev20 => ?_)
          refine sf_iload rfl ?_
          refine sf_iadd (by omega) (fun v21 ev21 => ?_)
          refine sf_aload rfl ?_
          refine sf_getr Iw18 rfl rfl ?_
          refine sf_iload rfl ?_
          refine sf_lald Iw18 rfl (by omega) (fun v22 ev22 => ?_)
          clear ev22
          refine sf_last Iw18 sw18 rfl (by omega) rfl rfl (fun w23 Iw23 sw23 kw23 uw23 => ?_)
          clear kw23 uw23
          refine sf_iinc (L' := [(0, .inl (.ref 71)), (1, .inl (.int a_d))]) sf_c1 rfl rfl (by omega) (fun v24 ev24 => ?_)
          refine sf_can (L' := [(0, .inl (.ref 71)), (1, .inl (.int a_d)), (2, .inl (.int v24))]) rfl ?_
          exact i_30 w23 v24 Iw23 sw23 (by omega) (by omega) (by omega)
  have hl1 := hl 1000000000000
  obtain ⟨i_2, i_30⟩ := hl1
  clear hl
  refine sf_sp (L := [(0, .inl (.ref 71)), (1, .inl (.int a_d))]) rfl rfl ?_
  generalize ku_M_book rt xt 1000000000000 = K at i_2 i_30 ⊢
  refine sf_iconst sf_c0 (fun z25 ez25 => ?_)
  refine sf_istore (L' := [(0, .inl (.ref 71)), (1, .inl (.int a_d))]) rfl ?_
  refine sf_can (L' := [(0, .inl (.ref 71)), (1, .inl (.int a_d)), (2, .inl (.int z25))]) rfl ?_
  exact i_2 w0 z25 hI0 hs0 (by omega) (by omega) (by omega)
def sm_M_addLot : List Nat := [71, 121, 122, 124, 125, 126, 8156]
set_option maxRecDepth 100000 in
set_option maxHeartbeats 4000000 in
theorem sc_M_addLot {w0 : wq_W} (hI0 : sf_I w0) {rt : Option wq_V → wq_W → Prop} {xt : Nat → wq_W → Prop} {a_good : Int32} {a_units : Int32} {a_withDuty : Int64} {a_held : Int32} {a_byWork : Int32} (p0 : 0 ≤ a_held.toInt) (p1 : a_held.toInt ≤ 1) (p2 : 0 ≤ a_byWork.toInt) (p3 : a_byWork.toInt ≤ 1) (p4 : (sf_f w0 71 56).toInt < 40) (hR : ∀ (r : Int32) (w : wq_W), sf_I w → sf_m sm_M_addLot w0 w → 0 ≤ r.toInt → r.toInt ≤ 40 → (r.toInt = (sf_f w0 71 56).toInt) → ((sf_f w 71 56).toInt = (sf_f w0 71 56).toInt + 1) → rt (some (.inl (.int r))) w) : ks_M_addLot [.inl (.ref 71), .inl (.int a_good), .inl (.int a_units), .inl (.long a_withDuty), .inl (.int a_held), .inl (.int a_byWork)] w0 rt xt := by
  have hs0 : sf_m sm_M_addLot w0 w0 := sf_m0
  refine sf_sp (L := [(0, .inl (.ref 71)), (1, .inl (.int a_good)), (2, .inl (.int a_units)), (3, .inl (.long a_withDuty)), (5, .inl (.int a_held)), (6, .inl (.int a_byWork))]) rfl rfl ?_
  refine sf_aload rfl ?_
  refine sf_getr hI0 rfl rfl ?_
  refine sf_aload rfl ?_
  refine sf_geti hI0 rfl rfl (fun v1 lv1 uv1 ev1 => ?_)
  refine sf_iload rfl ?_
  refine sf_iast hI0 hs0 rfl (by omega) (sf_bd _) rfl rfl (fun w2 Iw2 sw2 kw2 uw2 => ?_)
  have c3 := sf_mf kw2 (p := 71) (j := 56) rfl
  clear kw2 uw2
  refine sf_aload rfl ?_
  refine sf_getr Iw2 rfl rfl ?_
  refine sf_aload rfl ?_
  refine sf_geti Iw2 rfl rfl (fun v4 lv4 uv4 ev4 => ?_)
  rw [c3] at ev4
  refine sf_iload rfl ?_
  refine sf_iast Iw2 sw2 rfl (by omega) (sf_bd _) rfl rfl (fun w5 Iw5 sw5 kw5 uw5 => ?_)
  have c6 := sf_mf kw5 (p := 71) (j := 56) rfl
  clear kw5 uw5
  refine sf_aload rfl ?_
  refine sf_getr Iw5 rfl rfl ?_
  refine sf_aload rfl ?_
  refine sf_geti Iw5 rfl rfl (fun v7 lv7 uv7 ev7 => ?_)
  rw [c6, c3] at ev7
  refine sf_lload rfl ?_
  refine sf_last Iw5 sw5 rfl (by omega) rfl rfl (fun w8 Iw8 sw8 kw8 uw8 => ?_)
  have c9 := sf_mf kw8 (p := 71) (j := 56) rfl
  clear kw8 uw8
  refine sf_aload rfl ?_
  refine sf_getr Iw8 rfl rfl ?_
  refine sf_aload rfl ?_
  refine sf_geti Iw8 rfl rfl (fun v10 lv10 uv10 ev10 => ?_)
  rw [c9, c6, c3] at ev10
  refine sf_iload rfl ?_
  refine sf_zast Iw8 sw8 rfl (by omega) (by omega) rfl rfl (fun w11 Iw11 sw11 kw11 uw11 => ?_)
  have c12 := sf_mf kw11 (p := 71) (j := 56) rfl
  clear kw11 uw11
  refine sf_aload rfl ?_
  refine sf_getr Iw11 rfl rfl ?_
  refine sf_aload rfl ?_
  refine sf_geti Iw11 rfl rfl (fun v13 lv13 uv13 ev13 => ?_)
  rw [c12, c9, c6, c3] at ev13
  refine sf_iload rfl ?_
  refine sf_zast Iw11 sw11 rfl (by omega) (by omega) rfl rfl (fun w14 Iw14 sw14 kw14 uw14 => ?_)
  have c15 := sf_mf kw14 (p := 71) (j := 56) rfl
  clear kw14 uw14
  refine sf_aload rfl ?_
  refine sf_dup rfl ?_
  refine sf_geti Iw14 rfl rfl (fun v16 lv16 uv16 ev16 => ?_)
  rw [c15, c12, c9, c6, c3] at ev16
  refine sf_iconst sf_c1 (fun z17 ez17 => ?_)
  refine sf_iadd (by omega) (fun v18 ev18 => ?_)
  refine sf_puti Iw14 sw14 rfl rfl (by omega) rfl rfl rfl (fun w19 Iw19 sw19 kw19 uw19 => ?_)
  clear kw19
  refine sf_aload rfl ?_
  refine sf_geti Iw19 rfl rfl (fun v20 lv20 uv20 ev20 => ?_)
  rw [uw19] at ev20
  refine sf_iconst sf_c1 (fun z21 ez21 => ?_)
  refine sf_isub (by omega) (fun v22 ev22 => ?_)
  refine sf_ireturn rfl rfl ?_
  exact hR _ _ Iw19 sw19 (by omega) (by omega) (by omega) (by rw [uw19]; omega)
def sm_M_isWhole : List Nat := []
set_option maxRecDepth 100000 in
set_option maxHeartbeats 4000000 in
theorem sc_M_isWhole {w0 : wq_W} (hI0 : sf_I w0) {rt : Option wq_V → wq_W → Prop} {xt : Nat → wq_W → Prop} {a_d : Int32} (p0 : 0 ≤ a_d.toInt) (p1 : a_d.toInt ≤ 11) (hR : ∀ (r : Int32), 0 ≤ r.toInt → r.toInt ≤ 1 → rt (some (.inl (.int r))) w0) : ks_M_isWhole [.inl (.ref 71), .inl (.int a_d)] w0 rt xt := by
  have hl : ∀ n : Nat, (∀ (x2 : Int32) (x3 : Int32), (0 ≤ x2.toInt) → (x2.toInt ≤ 1) → (0 ≤ x3.toInt) → (x3.toInt ≤ 48) → (48 - x3.toInt < (n : Int)) → ku_M_isWhole rt xt n 11 [(0, .inl (.ref 71)), (1, .inl (.int a_d)), (2, .inl (.int x2)), (3, .inl (.int x3))] [] w0 0 0) := by
    intro n
    induction n with
    | zero =>
      refine ?_
      · intros; omega
    | succ n ih =>
      have i_11 := ih
      intro x2 x3 l_x2 u_x2 l_x3 u_x3 hm
      show kh_M_isWhole_11 rt xt (ku_M_isWhole rt xt n) [(0, .inl (.ref 71)), (1, .inl (.int a_d)), (2, .inl (.int x2)), (3, .inl (.int x3))] [] w0 0 0
      generalize ku_M_isWhole rt xt n = K at i_11 ⊢
      refine sf_iload rfl ?_
      refine sf_iconst sf_c4 (fun z1 ez1 => ?_)
      refine sf_iload rfl ?_
      refine sf_imull (n := 4) (by omega) (by omega) (fun v2 ev2 => ?_)
      refine sf_aload rfl ?_
      refine sf_getr hI0 rfl rfl ?_
      refine sf_iload rfl ?_
      refine sf_iald hI0 rfl (by omega) (fun v3 lv3 uv3 ev3 => ?_)
      refine sf_iadd (by omega) (fun v4 ev4 => ?_)
      refine sf_f2_ge (fun h5 => ?_) (fun h5 => ?_)
      · refine sf_iload rfl ?_
        refine sf_zreturn (by omega) rfl rfl ?_
        exact hR _ (by omega) (by omega) 
      · refine sf_iload rfl ?_
        refine sf_f1_eq (fun h6 => ?_) (fun h6 => ?_)
        · refine sf_iconst sf_c0 (fun z7 ez7 => ?_)
          refine sf_istore (L' := [(0, .inl (.ref 71)), (1, .inl (.int a_d)), (3, .inl (.int x3))]) rfl ?_
          refine sf_iinc (L' := [(2, .inl (.int z7)), (0, .inl (.ref 71)), (1, .inl (.int a_d))]) sf_c1 rfl rfl (by omega) (fun v8 ev8 => ?_)
          refine sf_can (L' := [(0, .inl (.ref 71)), (1, .inl (.int a_d)), (2, .inl (.int z7)), (3, .inl (.int v8))]) rfl ?_
          exact i_11 z7 v8 (by omega) (by omega) (by omega) (by omega) (by omega)
        · refine sf_aload rfl ?_
          refine sf_getr hI0 rfl rfl ?_
          refine sf_aload rfl ?_
          refine sf_getr hI0 rfl rfl ?_
          refine sf_iload rfl ?_
          refine sf_iald hI0 rfl (by omega) (fun v9 lv9 uv9 ev9 => ?_)
          clear ev9
          refine sf_iald hI0 rfl (by omega) (fun v10 lv10 uv10 ev10 => ?_)
          refine sf_f1_eq (fun h11 => ?_) (fun h11 => ?_)
          · refine sf_iconst sf_c1 (fun z12 ez12 => ?_)
            refine sf_istore (L' := [(0, .inl (.ref 71)), (1, .inl (.int a_d)), (3, .inl (.int x3))]) rfl ?_
            refine sf_iinc (L' := [(2, .inl (.int z12)), (0, .inl (.ref 71)), (1, .inl (.int a_d))]) sf_c1 rfl rfl (by omega) (fun v13 ev13 => ?_)
            refine sf_can (L' := [(0, .inl (.ref 71)), (1, .inl (.int a_d)), (2, .inl (.int z12)), (3, .inl (.int v13))]) rfl ?_
            exact i_11 z12 v13 (by omega) (by omega) (by omega) (by omega) (by omega)
          · refine sf_iconst sf_c0 (fun z14 ez14 => ?_)
            refine sf_istore (L' := [(0, .inl (.ref 71)), (1, .inl (.int a_d)), (3, .inl (.int x3))]) rfl ?_
            refine sf_iinc (L' := [(2, .inl (.int z14)), (0, .inl (.ref 71)), (1, .inl (.int a_d))]) sf_c1 rfl rfl (by omega) (fun v15 ev15 => ?_)
            refine sf_can (L' := [(0, .inl (.ref 71)), (1, .inl (.int a_d)), (2, .inl (.int z14)), (3, .inl (.int v15))]) rfl ?_
            exact i_11 z14 v15 (by omega) (by omega) (by omega) (by omega) (by omega)
  have hl1 := hl 1000000000000
  have i_11 := hl1
  clear hl hl1
  refine sf_sp (L := [(0, .inl (.ref 71)), (1, .inl (.int a_d))]) rfl rfl ?_
  generalize ku_M_isWhole rt xt 1000000000000 = K at i_11 ⊢
  refine sf_aload rfl ?_
  refine sf_getr hI0 rfl rfl ?_
  refine sf_iload rfl ?_
  refine sf_zald hI0 rfl (by omega) (fun v16 lv16 uv16 ev16 => ?_)
  clear ev16
  refine sf_istore (L' := [(0, .inl (.ref 71)), (1, .inl (.int a_d))]) rfl ?_
  refine sf_iconst sf_c4 (fun z17 ez17 => ?_)
  refine sf_iload rfl ?_
  refine sf_imull (n := 4) (by omega) (by omega) (fun v18 ev18 => ?_)
  refine sf_istore (L' := [(2, .inl (.int v16)), (0, .inl (.ref 71)), (1, .inl (.int a_d))]) rfl ?_
  refine sf_can (L' := [(0, .inl (.ref 71)), (1, .inl (.int a_d)), (2, .inl (.int v16)), (3, .inl (.int v18))]) rfl ?_
  exact i_11 v16 v18 (by omega) (by omega) (by omega) (by omega) (by omega)
def sm_M_left : List Nat := []
set_option maxRecDepth 100000 in
set_option maxHeartbeats 4000000 in
theorem sc_M_left {w0 : wq_W} (hI0 : sf_I w0) {rt : Option wq_V → wq_W → Prop} {xt : Nat → wq_W → Prop} {a_good : Int32} {a_held : Int32} (p0 : 0 ≤ a_held.toInt) (p1 : a_held.toInt ≤ 1) (hR : ∀ (r : Int32), rt (some (.inl (.int r))) w0) : ks_M_left [.inl (.ref 71), .inl (.int a_good), .inl (.int a_held)] w0 rt xt := by
  have hl : ∀ n : Nat, (∀ (x3 : Int32) (x4 : Int32), (0 ≤ x4.toInt) → (x4.toInt ≤ 40) → (40 - x4.toInt < (n : Int)) → ku_M_left rt xt n 5 [(0, .inl (.ref 71)), (1, .inl (.int a_good)), (2, .inl (.int a_held)), (3, .inl (.int x3)), (4, .inl (.int x4))] [] w0 0 0) := by
    intro n
    induction n with
    | zero =>
      refine ?_
      · intros; omega
    | succ n ih =>
      have i_5 := ih
      intro x3 x4 l_x4 u_x4 hm
      show kh_M_left_5 rt xt (ku_M_left rt xt n) [(0, .inl (.ref 71)), (1, .inl (.int a_good)), (2, .inl (.int a_held)), (3, .inl (.int x3)), (4, .inl (.int x4))] [] w0 0 0
      generalize ku_M_left rt xt n = K at i_5 ⊢
      refine sf_iload rfl ?_
      refine sf_aload rfl ?_
      refine sf_geti hI0 rfl rfl (fun v1 lv1 uv1 ev1 => ?_)
      refine sf_f2_ge (fun h2 => ?_) (fun h2 => ?_)
      · refine sf_iload rfl ?_
        refine sf_ireturn rfl rfl ?_
        exact hR _ 
      · refine sf_aload rfl ?_
        refine sf_getr hI0 rfl rfl ?_
        refine sf_iload rfl ?_
        refine sf_iald hI0 rfl (by omega) (fun v3 lv3 uv3 ev3 => ?_)
        clear lv3 uv3
        clear ev3
        refine sf_iload rfl ?_
        refine sf_f2_eq (fun h4 => ?_) (fun h4 => ?_)
        · refine sf_aload rfl ?_
          refine sf_getr hI0 rfl rfl ?_
          refine sf_iload rfl ?_
          refine sf_zald hI0 rfl (by omega) (fun v5 lv5 uv5 ev5 => ?_)
          clear ev5
          refine sf_iload rfl ?_
          refine sf_f2_eq (fun h6 => ?_) (fun h6 => ?_)
          · refine sf_iload rfl ?_
            refine sf_aload rfl ?_
            refine sf_getr hI0 rfl rfl ?_
            refine sf_iload rfl ?_
            refine sf_iald hI0 rfl (by omega) (fun v7 lv7 uv7 ev7 => ?_)
            refine sf_i2 (fun v8 => ?_)
            refine sf_aload rfl ?_
            refine sf_getr hI0 rfl rfl ?_
            refine sf_iload rfl ?_
            refine sf_iald hI0 rfl (by omega) (fun v9 lv9 uv9 ev9 => ?_)
            refine sf_i2 (fun v10 => ?_)
            refine sf_istore (L' := [(0, .inl (.ref 71)), (1, .inl (.int a_good)), (2, .inl (.int a_held)), (4, .inl (.int x4))]) rfl ?_
            refine sf_iinc (L' := [(3, .inl (.int v10)), (0, .inl (.ref 71)), (1, .inl (.int a_good)), (2, .inl (.int a_held))]) sf_c1 rfl rfl (by omega) (fun v11 ev11 => ?_)
            refine sf_can (L' := [(0, .inl (.ref 71)), (1, .inl (.int a_good)), (2, .inl (.int a_held)), (3, .inl (.int v10)), (4, .inl (.int v11))]) rfl ?_
            exact i_5 v10 v11 (by omega) (by omega) (by omega)
          · refine sf_iload rfl ?_
            refine sf_istore (L' := [(0, .inl (.ref 71)), (1, .inl (.int a_good)), (2, .inl (.int a_held)), (4, .inl (.int x4))]) rfl ?_
            refine sf_iinc (L' := [(3, .inl (.int x3)), (0, .inl (.ref 71)), (1, .inl (.int a_good)), (2, .inl (.int a_held))]) sf_c1 rfl rfl (by omega) (fun v12 ev12 => ?_)
            refine sf_can (L' := [(0, .inl (.ref 71)), (1, .inl (.int a_good)), (2, .inl (.int a_held)), (3, .inl (.int x3)), (4, .inl (.int v12))]) rfl ?_
            exact i_5 x3 v12 (by omega) (by omega) (by omega)
        · refine sf_iload rfl ?_
          refine sf_istore (L' := [(0, .inl (.ref 71)), (1, .inl (.int a_good)), (2, .inl (.int a_held)), (4, .inl (.int x4))]) rfl ?_
          refine sf_iinc (L' := [(3, .inl (.int x3)), (0, .inl (.ref 71)), (1, .inl (.int a_good)), (2, .inl (.int a_held))]) sf_c1 rfl rfl (by omega) (fun v13 ev13 => ?_)
          refine sf_can (L' := [(0, .inl (.ref 71)), (1, .inl (.int a_good)), (2, .inl (.int a_held)), (3, .inl (.int x3)), (4, .inl (.int v13))]) rfl ?_
          exact i_5 x3 v13 (by omega) (by omega) (by omega)
  have hl1 := hl 1000000000000
  have i_5 := hl1
  clear hl hl1
  refine sf_sp (L := [(0, .inl (.ref 71)), (1, .inl (.int a_good)), (2, .inl (.int a_held))]) rfl rfl ?_
  generalize ku_M_left rt xt 1000000000000 = K at i_5 ⊢
  refine sf_iconst sf_c0 (fun z14 ez14 => ?_)
  refine sf_istore (L' := [(0, .inl (.ref 71)), (1, .inl (.int a_good)), (2, .inl (.int a_held))]) rfl ?_
  refine sf_iconst sf_c0 (fun z15 ez15 => ?_)
  refine sf_istore (L' := [(3, .inl (.int z14)), (0, .inl (.ref 71)), (1, .inl (.int a_good)), (2, .inl (.int a_held))]) rfl ?_
  refine sf_can (L' := [(0, .inl (.ref 71)), (1, .inl (.int a_good)), (2, .inl (.int a_held)), (3, .inl (.int z14)), (4, .inl (.int z15))]) rfl ?_
  exact i_5 z14 z15 (by omega) (by omega) (by omega)
def sm_M_came : List Nat := []
set_option maxRecDepth 100000 in
set_option maxHeartbeats 4000000 in
theorem sc_M_came {w0 : wq_W} (hI0 : sf_I w0) {rt : Option wq_V → wq_W → Prop} {xt : Nat → wq_W → Prop} {a_good : Int32} {a_byWork : Int32} (p0 : 0 ≤ a_byWork.toInt) (p1 : a_byWork.toInt ≤ 1) (hR : ∀ (r : Int32), rt (some (.inl (.int r))) w0) : ks_M_came [.inl (.ref 71), .inl (.int a_good), .inl (.int a_byWork)] w0 rt xt := by
  have hl : ∀ n : Nat, (∀ (x3 : Int32) (x4 : Int32), (0 ≤ x4.toInt) → (x4.toInt ≤ 40) → (40 - x4.toInt < (n : Int)) → ku_M_came rt xt n 5 [(0, .inl (.ref 71)), (1, .inl (.int a_good)), (2, .inl (.int a_byWork)), (3, .inl (.int x3)), (4, .inl (.int x4))] [] w0 0 0) := by
    intro n
    induction n with
    | zero =>
      refine ?_
      · intros; omega
    | succ n ih =>
      have i_5 := ih
      intro x3 x4 l_x4 u_x4 hm
      show kh_M_came_5 rt xt (ku_M_came rt xt n) [(0, .inl (.ref 71)), (1, .inl (.int a_good)), (2, .inl (.int a_byWork)), (3, .inl (.int x3)), (4, .inl (.int x4))] [] w0 0 0
      generalize ku_M_came rt xt n = K at i_5 ⊢
      refine sf_iload rfl ?_
      refine sf_aload rfl ?_
      refine sf_geti hI0 rfl rfl (fun v1 lv1 uv1 ev1 => ?_)
      refine sf_f2_ge (fun h2 => ?_) (fun h2 => ?_)
      · refine sf_iload rfl ?_
        refine sf_ireturn rfl rfl ?_
        exact hR _ 
      · refine sf_aload rfl ?_
        refine sf_getr hI0 rfl rfl ?_
        refine sf_iload rfl ?_
        refine sf_iald hI0 rfl (by omega) (fun v3 lv3 uv3 ev3 => ?_)
        clear lv3 uv3
        clear ev3
        refine sf_iload rfl ?_
        refine sf_f2_eq (fun h4 => ?_) (fun h4 => ?_)
        · refine sf_aload rfl ?_
          refine sf_getr hI0 rfl rfl ?_
          refine sf_iload rfl ?_
          refine sf_zald hI0 rfl (by omega) (fun v5 lv5 uv5 ev5 => ?_)
          clear ev5
          refine sf_f1_eq (fun h6 => ?_) (fun h6 => ?_)
          · refine sf_iload rfl ?_
            refine sf_istore (L' := [(0, .inl (.ref 71)), (1, .inl (.int a_good)), (2, .inl (.int a_byWork)), (4, .inl (.int x4))]) rfl ?_
            refine sf_iinc (L' := [(3, .inl (.int x3)), (0, .inl (.ref 71)), (1, .inl (.int a_good)), (2, .inl (.int a_byWork))]) sf_c1 rfl rfl (by omega) (fun v7 ev7 => ?_)
            refine sf_can (L' := [(0, .inl (.ref 71)), (1, .inl (.int a_good)), (2, .inl (.int a_byWork)), (3, .inl (.int x3)), (4, .inl (.int v7))]) rfl ?_
            exact i_5 x3 v7 (by omega) (by omega) (by omega)
          · refine sf_aload rfl ?_
            refine sf_getr hI0 rfl rfl ?_
            refine sf_iload rfl ?_
            refine sf_zald hI0 rfl (by omega) (fun v8 lv8 uv8 ev8 => ?_)
            clear ev8
            refine sf_iload rfl ?_
            refine sf_f2_eq (fun h9 => ?_) (fun h9 => ?_)
            · refine sf_iload rfl ?_
              refine sf_aload rfl ?_
              refine sf_getr hI0 rfl rfl ?_
              refine sf_iload rfl ?_
              refine sf_iald hI0 rfl (by omega) (fun v10 lv10 uv10 ev10 => ?_)
              refine sf_i2 (fun v11 => ?_)
              refine sf_istore (L' := [(0, .inl (.ref 71)), (1, .inl (.int a_good)), (2, .inl (.int a_byWork)), (4, .inl (.int x4))]) rfl ?_
              refine sf_iinc (L' := [(3, .inl (.int v11)), (0, .inl (.ref 71)), (1, .inl (.int a_good)), (2, .inl (.int a_byWork))]) sf_c1 rfl rfl (by omega) (fun v12 ev12 => ?_)
              refine sf_can (L' := [(0, .inl (.ref 71)), (1, .inl (.int a_good)), (2, .inl (.int a_byWork)), (3, .inl (.int v11)), (4, .inl (.int v12))]) rfl ?_
              exact i_5 v11 v12 (by omega) (by omega) (by omega)
            · refine sf_iload rfl ?_
              refine sf_istore (L' := [(0, .inl (.ref 71)), (1, .inl (.int a_good)), (2, .inl (.int a_byWork)), (4, .inl (.int x4))]) rfl ?_
              refine sf_iinc (L' := [(3, .inl (.int x3)), (0, .inl (.ref 71)), (1, .inl (.int a_good)), (2, .inl (.int a_byWork))]) sf_c1 rfl rfl (by omega) (fun v13 ev13 => ?_)
              refine sf_can (L' := [(0, .inl (.ref 71)), (1, .inl (.int a_good)), (2, .inl (.int a_byWork)), (3, .inl (.int x3)), (4, .inl (.int v13))]) rfl ?_
              exact i_5 x3 v13 (by omega) (by omega) (by omega)
        · refine sf_iload rfl ?_
          refine sf_istore (L' := [(0, .inl (.ref 71)), (1, .inl (.int a_good)), (2, .inl (.int a_byWork)), (4, .inl (.int x4))]) rfl ?_
          refine sf_iinc (L' := [(3, .inl (.int x3)), (0, .inl (.ref 71)), (1, .inl (.int a_good)), (2, .inl (.int a_byWork))]) sf_c1 rfl rfl (by omega) (fun v14 ev14 => ?_)
          refine sf_can (L' := [(0, .inl (.ref 71)), (1, .inl (.int a_good)), (2, .inl (.int a_byWork)), (3, .inl (.int x3)), (4, .inl (.int v14))]) rfl ?_
          exact i_5 x3 v14 (by omega) (by omega) (by omega)
  have hl1 := hl 1000000000000
  have i_5 := hl1
  clear hl hl1
  refine sf_sp (L := [(0, .inl (.ref 71)), (1, .inl (.int a_good)), (2, .inl (.int a_byWork))]) rfl rfl ?_
  generalize ku_M_came rt xt 1000000000000 = K at i_5 ⊢
  refine sf_iconst sf_c0 (fun z15 ez15 => ?_)
  refine sf_istore (L' := [(0, .inl (.ref 71)), (1, .inl (.int a_good)), (2, .inl (.int a_byWork))]) rfl ?_
  refine sf_iconst sf_c0 (fun z16 ez16 => ?_)
  refine sf_istore (L' := [(3, .inl (.int z15)), (0, .inl (.ref 71)), (1, .inl (.int a_good)), (2, .inl (.int a_byWork))]) rfl ?_
  refine sf_can (L' := [(0, .inl (.ref 71)), (1, .inl (.int a_good)), (2, .inl (.int a_byWork)), (3, .inl (.int z15)), (4, .inl (.int z16))]) rfl ?_
  exact i_5 z15 z16 (by omega) (by omega) (by omega)
