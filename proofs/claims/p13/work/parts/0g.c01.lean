def sm_O_meetsChange : List Nat := [11, 12]
set_option maxRecDepth 100000 in
set_option maxHeartbeats 4000000 in
theorem sc_O_meetsChange {w0 : wq_W} (hI0 : sf_I w0) {rt : Option wq_V → wq_W → Prop} {xt : Nat → wq_W → Prop} {a_good : Int32} {a_zone : Int32} {a_made : Int32} {a_own : Int32} (p0 : 0 ≤ a_good.toInt) (p1 : a_good.toInt ≤ 15) (p2 : 0 ≤ a_zone.toInt) (p3 : a_zone.toInt ≤ 3) (p4 : sf_J (sf_a w0 3) (sf_a w0 2) (sf_f w0 1 0).toInt) (p5 : a_own.toInt = (sm_cl (sc_b (sf_a w0 2) (sf_a w0 6) (sf_a w0 7) (sf_a w0 8) (sf_a w0 9) (sf_a w0 3) (sp_ag (sf_g w0 10)) (sf_f w0 1 5).toInt (sf_f w0 1 0).toInt)) a_good.toInt.toNat) (hR : ∀ (r : Int32) (w : wq_W), sf_I w → sf_m sm_O_meetsChange w0 w → 0 ≤ r.toInt → r.toInt ≤ 1 → (r.toInt = sp_i (sm_C (sm_fo (sm_pc (sf_a w0 30)) (sm_g2 (sf_g w0 31)) (sm_lg (sf_a w0 29 a_zone.toInt.toNat) (sf_g w0 33)) (sb_t a_made) a_good.toInt.toNat) (sm_g2 (sf_g w0 31)) (sm_cl (sc_b (sf_a w0 2) (sf_a w0 6) (sf_a w0 7) (sf_a w0 8) (sf_a w0 9) (sf_a w0 3) (sp_ag (sf_g w0 10)) (sf_f w0 1 5).toInt (sf_f w0 1 0).toInt)) a_good.toInt.toNat (sf_a w0 30 a_good.toInt.toNat).toInt.toNat)) → rt (some (.inl (.int r))) w) : ks_O_meetsChange [.inl (.ref 28), .inl (.int a_good), .inl (.int a_zone), .inl (.int a_made), .inl (.int a_own)] w0 rt xt := by
  have hs0 : sf_m sm_O_meetsChange w0 w0 := sf_m0
  have bP := (sf_arr hI0 (p := 30) rfl).2.1 a_good.toInt.toNat (by omega)
  have hl : ∀ n : Nat, (∀ (w : wq_W) (x5 : Int32), (sf_I w) → (sf_m sm_O_meetsChange w0 w) → (0 ≤ x5.toInt) → (x5.toInt ≤ 5) → (sm_C (sm_fo (sm_pc (sf_a w0 30)) (sm_g2 (sf_g w0 31)) (sm_lg (sf_a w0 29 a_zone.toInt.toNat) (sf_g w0 33)) (sb_t a_made) a_good.toInt.toNat) (sm_g2 (sf_g w0 31)) (sm_cl (sc_b (sf_a w0 2) (sf_a w0 6) (sf_a w0 7) (sf_a w0 8) (sf_a w0 9) (sf_a w0 3) (sp_ag (sf_g w0 10)) (sf_f w0 1 5).toInt (sf_f w0 1 0).toInt)) a_good.toInt.toNat x5.toInt.toNat = true) → (x5.toInt ≤ (sf_a w0 30 a_good.toInt.toNat).toInt) → (5 - x5.toInt < (n : Int)) → ku_O_meetsChange rt xt n 3 [(0, .inl (.ref 28)), (1, .inl (.int a_good)), (2, .inl (.int a_zone)), (3, .inl (.int a_made)), (4, .inl (.int a_own)), (5, .inl (.int x5))] [] w 0 0) := by
    intro n
    induction n with
    | zero =>
      refine ?_
      · intros; omega
    | succ n ih =>
      have i_3 := ih
      intro w x5 I_w s_w l_x5 u_x5 f_0 f_1 hm
      show kh_O_meetsChange_3 rt xt (ku_O_meetsChange rt xt n) [(0, .inl (.ref 28)), (1, .inl (.int a_good)), (2, .inl (.int a_zone)), (3, .inl (.int a_made)), (4, .inl (.int a_own)), (5, .inl (.int x5))] [] w 0 0
      generalize ku_O_meetsChange rt xt n = K at i_3 ⊢
      refine sf_iload rfl ?_
      refine sf_aload rfl ?_
      refine sf_getr I_w rfl rfl ?_
      refine sf_iload rfl ?_
      refine sf_iald I_w rfl (by omega) (fun v1 lv1 uv1 ev1 => ?_)
      rw [sf_ma s_w (p := 30) rfl] at ev1
      refine sf_f2_ge (fun h2 => ?_) (fun h2 => ?_)
      · refine sf_iconst sf_c1 (fun z3 ez3 => ?_)
        refine sf_zreturn (by omega) rfl rfl ?_
        exact hR _ _ I_w s_w (by omega) (by omega) (by rw [show (sf_a w0 30 a_good.toInt.toNat).toInt.toNat = x5.toInt.toNat by omega, f_0]; show _ = (1 : Int); omega)
      · refine sf_aload rfl ?_
        refine sf_iload rfl ?_
        refine sf_iload rfl ?_
        refine sf_iload rfl ?_
        refine sf_iload rfl ?_
        refine sf_call5 rfl rfl rfl ?_
        refine sf_rv I_w rfl ?_
        refine sf_sp (L := [(0, .inl (.ref 28)), (1, .inl (.int a_good)), (2, .inl (.int x5)), (3, .inl (.int a_zone)), (4, .inl (.int a_made))]) rfl rfl ?_
        refine sf_aload rfl ?_
        refine sf_getr I_w rfl rfl ?_
        refine sf_iload rfl ?_
        refine sf_aald I_w rfl (by omega) ?_
        refine sf_iload rfl ?_
        refine sf_gald I_w rfl (by omega) (by omega) (fun v4 lv4 uv4 ev4 => ?_)
        rw [sf_mg s_w (p := 31) rfl] at ev4
        have gp : v4.toInt.toNat = (sm_g2 (sf_g w0 31)) a_good.toInt.toNat x5.toInt.toNat := by unfold sm_g2; rw [ev4]
        refine sf_istore (L' := [(0, .inl (.ref 28)), (1, .inl (.int a_good)), (2, .inl (.int x5)), (3, .inl (.int a_zone)), (4, .inl (.int a_made))]) rfl ?_
        refine sf_aload rfl ?_
        refine sf_getr I_w rfl rfl ?_
        refine sf_iload rfl ?_
        refine sf_iald I_w rfl (by omega) (fun v5 lv5 uv5 ev5 => ?_)
        clear lv5 uv5
        rw [sf_ma s_w (p := 29) rfl] at ev5
        have gz := sb_eq ev5
        refine sf_aload rfl ?_
        refine sf_getr I_w rfl rfl ?_
        refine sf_iload rfl ?_
        refine sf_aald I_w rfl (by omega) ?_
        refine sf_iload rfl ?_
        refine sf_gald I_w rfl (by omega) (by omega) (fun v6 lv6 uv6 ev6 => ?_)
        rw [sf_mg s_w (p := 33) rfl] at ev6
        have gl := ev6
        refine sf_call2 rfl rfl rfl ?_
        refine sc_O_has I_w (by omega) (by omega) (fun v7 lv7 uv7 q8_0 => ?_)
        have gZ9 := q8_0
        rw [gz, gl] at gZ9
        have gZ : v7.toInt = sp_i ((sm_lg (sf_a w0 29 a_zone.toInt.toNat) (sf_g w0 33)) a_good.toInt.toNat x5.toInt.toNat) := gZ9
        refine sf_f1_eq (fun h9 => ?_) (fun h9 => ?_)
        · refine sf_iconst sf_c1 (fun z10 ez10 => ?_)
          refine sf_zreturn (by omega) rfl rfl ?_
          refine sf_f1_eq (fun h11 => absurd h11 (by omega)) (fun h11 => ?_)
          refine sf_aload rfl ?_
          refine sf_getr I_w rfl rfl ?_
          refine sf_aload rfl ?_
          refine sf_getr I_w rfl rfl ?_
          refine sf_iload rfl ?_
          refine sf_aald I_w rfl (by omega) ?_
          refine sf_iload rfl ?_
          refine sf_gald I_w rfl (by omega) (by omega) (fun v12 lv12 uv12 ev12 => ?_)
          rw [sf_mg s_w (p := 31) rfl] at ev12
          have gp2 : v12.toInt.toNat = (sm_g2 (sf_g w0 31)) a_good.toInt.toNat x5.toInt.toNat := by unfold sm_g2; rw [ev12]
          refine sf_call2 rfl rfl rfl ?_
          refine sf_rv I_w rfl ?_
          refine sc_T_classOf_K I_w (by omega) (by omega) (by rw [sf_ma s_w (p := 3) rfl]; rw [sf_ma s_w (p := 2) rfl]; rw [sf_mf s_w (p := 1) (j := 0) rfl]; exact p4) (fun v13 w14 Iw14 tw14 lv13 uv13 q15_0 => ?_)
          rw [sf_ma s_w (p := 2) rfl] at q15_0
          rw [sf_ma s_w (p := 3) rfl] at q15_0
          rw [sf_ma s_w (p := 6) rfl] at q15_0
          rw [sf_ma s_w (p := 7) rfl] at q15_0
          rw [sf_ma s_w (p := 8) rfl] at q15_0
          rw [sf_ma s_w (p := 9) rfl] at q15_0
          rw [sf_mg s_w (p := 10) rfl] at q15_0
          rw [sf_mf s_w (p := 1) (j := 0) rfl] at q15_0
          rw [sf_mf s_w (p := 1) (j := 5) rfl] at q15_0
          have s16 := sf_mt s_w tw14 rfl
          have gb : v13.toInt = (sc_b (sf_a w0 2) (sf_a w0 6) (sf_a w0 7) (sf_a w0 8) (sf_a w0 9) (sf_a w0 3) (sp_ag (sf_g w0 10)) (sf_f w0 1 5).toInt (sf_f w0 1 0).toInt) v12.toInt := q15_0
          have gc := gb.trans (sm_cle (by omega))
          rw [gp2] at gc
          refine sf_iload rfl ?_
          refine sf_f2_eq (fun h17 => ?_) (fun h17 => ?_)
          · refine sf_iconst sf_c0 (fun z18 ez18 => ?_)
            refine sf_zreturn (by omega) rfl rfl ?_
            exact hR _ _ Iw14 s16 (by omega) (by omega) (by rw [show (sf_a w0 30 a_good.toInt.toNat).toInt.toNat = (x5.toInt.toNat + 1) + ((sf_a w0 30 a_good.toInt.toNat).toInt.toNat - (x5.toInt.toNat + 1)) by omega, sm_CX (sm_CF rfl ⟨sm_foT (by omega), by omega⟩)]; show _ = (0 : Int); omega)
          · refine sf_iinc (L' := [(0, .inl (.ref 28)), (1, .inl (.int a_good)), (2, .inl (.int a_zone)), (3, .inl (.int a_made)), (4, .inl (.int a_own))]) sf_c1 rfl rfl (by omega) (fun v19 ev19 => ?_)
            refine sf_can (L' := [(0, .inl (.ref 28)), (1, .inl (.int a_good)), (2, .inl (.int a_zone)), (3, .inl (.int a_made)), (4, .inl (.int a_own)), (5, .inl (.int v19))]) rfl ?_
            exact i_3 w14 v19 Iw14 s16 (by omega) (by omega) (by exact (sm_CT (n := x5.toInt.toNat) (by omega) (Or.inr (by omega))).trans f_0) (by omega) (by omega)
        · refine sf_aload rfl ?_
          refine sf_getr I_w rfl rfl ?_
          refine sf_iload rfl ?_
          refine sf_iald I_w rfl (by omega) (fun v20 lv20 uv20 ev20 => ?_)
          rw [sf_ma s_w (p := 30) rfl] at ev20
          rw [gp] at ev20
          have gN : (sm_pc (sf_a w0 30)) ((sm_g2 (sf_g w0 31)) a_good.toInt.toNat x5.toInt.toNat) = v20.toInt := ev20.symm
          refine sf_f1_le (fun h21 => ?_) (fun h21 => ?_)
          · refine sf_iconst sf_c0 (fun z22 ez22 => ?_)
            refine sf_zreturn (by omega) rfl rfl ?_
            refine sf_f1_eq (fun h23 => ?_) (fun h23 => absurd h23 (by omega))
            refine sf_iinc (L' := [(0, .inl (.ref 28)), (1, .inl (.int a_good)), (2, .inl (.int a_zone)), (3, .inl (.int a_made)), (4, .inl (.int a_own))]) sf_c1 rfl rfl (by omega) (fun v24 ev24 => ?_)
            refine sf_can (L' := [(0, .inl (.ref 28)), (1, .inl (.int a_good)), (2, .inl (.int a_zone)), (3, .inl (.int a_made)), (4, .inl (.int a_own)), (5, .inl (.int v24))]) rfl ?_
            exact i_3 w v24 I_w s_w (by omega) (by omega) (by exact (sm_CT (n := x5.toInt.toNat) (by omega) (Or.inl (sm_foF (by omega)))).trans f_0) (by omega) (by omega)
          · refine sf_iload rfl ?_
            refine sf_iload rfl ?_
            refine sf_call2 rfl rfl rfl ?_
            refine sc_O_has I_w (by omega) (by omega) (fun v25 lv25 uv25 q26_0 => ?_)
            have gM := q26_0
            rw [gp] at gM
            refine sf_f1_eq (fun h27 => ?_) (fun h27 => ?_)
            · refine sf_iconst sf_c1 (fun z28 ez28 => ?_)
              refine sf_zreturn (by omega) rfl rfl ?_
              refine sf_f1_eq (fun h29 => absurd h29 (by omega)) (fun h29 => ?_)
              refine sf_aload rfl ?_
              refine sf_getr I_w rfl rfl ?_
              refine sf_aload rfl ?_
              refine sf_getr I_w rfl rfl ?_
              refine sf_iload rfl ?_
              refine sf_aald I_w rfl (by omega) ?_
              refine sf_iload rfl ?_
              refine sf_gald I_w rfl (by omega) (by omega) (fun v30 lv30 uv30 ev30 => ?_)
              rw [sf_mg s_w (p := 31) rfl] at ev30
              have gp2 : v30.toInt.toNat = (sm_g2 (sf_g w0 31)) a_good.toInt.toNat x5.toInt.toNat := by unfold sm_g2; rw [ev30]
              refine sf_call2 rfl rfl rfl ?_
              refine sf_rv I_w rfl ?_
              refine sc_T_classOf_K I_w (by omega) (by omega) (by rw [sf_ma s_w (p := 3) rfl]; rw [sf_ma s_w (p := 2) rfl]; rw [sf_mf s_w (p := 1) (j := 0) rfl]; exact p4) (fun v31 w32 Iw32 tw32 lv31 uv31 q33_0 => ?_)
              rw [sf_ma s_w (p := 2) rfl] at q33_0
              rw [sf_ma s_w (p := 3) rfl] at q33_0
              rw [sf_ma s_w (p := 6) rfl] at q33_0
              rw [sf_ma s_w (p := 7) rfl] at q33_0
              rw [sf_ma s_w (p := 8) rfl] at q33_0
              rw [sf_ma s_w (p := 9) rfl] at q33_0
              rw [sf_mg s_w (p := 10) rfl] at q33_0
              rw [sf_mf s_w (p := 1) (j := 0) rfl] at q33_0
              rw [sf_mf s_w (p := 1) (j := 5) rfl] at q33_0
              have s34 := sf_mt s_w tw32 rfl
              have gb : v31.toInt = (sc_b (sf_a w0 2) (sf_a w0 6) (sf_a w0 7) (sf_a w0 8) (sf_a w0 9) (sf_a w0 3) (sp_ag (sf_g w0 10)) (sf_f w0 1 5).toInt (sf_f w0 1 0).toInt) v30.toInt := q33_0
              have gc := gb.trans (sm_cle (by omega))
              rw [gp2] at gc
              refine sf_iload rfl ?_
              refine sf_f2_eq (fun h35 => ?_) (fun h35 => ?_)
              · refine sf_iconst sf_c0 (fun z36 ez36 => ?_)
                refine sf_zreturn (by omega) rfl rfl ?_
                exact hR _ _ Iw32 s34 (by omega) (by omega) (by rw [show (sf_a w0 30 a_good.toInt.toNat).toInt.toNat = (x5.toInt.toNat + 1) + ((sf_a w0 30 a_good.toInt.toNat).toInt.toNat - (x5.toInt.toNat + 1)) by omega, sm_CX (sm_CF rfl ⟨sm_foT (by omega), by omega⟩)]; show _ = (0 : Int); omega)
              · refine sf_iinc (L' := [(0, .inl (.ref 28)), (1, .inl (.int a_good)), (2, .inl (.int a_zone)), (3, .inl (.int a_made)), (4, .inl (.int a_own))]) sf_c1 rfl rfl (by omega) (fun v37 ev37 => ?_)
                refine sf_can (L' := [(0, .inl (.ref 28)), (1, .inl (.int a_good)), (2, .inl (.int a_zone)), (3, .inl (.int a_made)), (4, .inl (.int a_own)), (5, .inl (.int v37))]) rfl ?_
                exact i_3 w32 v37 Iw32 s34 (by omega) (by omega) (by exact (sm_CT (n := x5.toInt.toNat) (by omega) (Or.inr (by omega))).trans f_0) (by omega) (by omega)
            · refine sf_iconst sf_c0 (fun z38 ez38 => ?_)
              refine sf_zreturn (by omega) rfl rfl ?_
              refine sf_f1_eq (fun h39 => ?_) (fun h39 => absurd h39 (by omega))
              refine sf_iinc (L' := [(0, .inl (.ref 28)), (1, .inl (.int a_good)), (2, .inl (.int a_zone)), (3, .inl (.int a_made)), (4, .inl (.int a_own))]) sf_c1 rfl rfl (by omega) (fun v40 ev40 => ?_)
              refine sf_can (L' := [(0, .inl (.ref 28)), (1, .inl (.int a_good)), (2, .inl (.int a_zone)), (3, .inl (.int a_made)), (4, .inl (.int a_own)), (5, .inl (.int v40))]) rfl ?_
              exact i_3 w v40 I_w s_w (by omega) (by omega) (by exact (sm_CT (n := x5.toInt.toNat) (by omega) (Or.inl (sm_foF (by omega)))).trans f_0) (by omega) (by omega)
  have hl1 := hl 1000000000000
  have i_3 := hl1
  clear hl hl1
  refine sf_sp (L := [(0, .inl (.ref 28)), (1, .inl (.int a_good)), (2, .inl (.int a_zone)), (3, .inl (.int a_made)), (4, .inl (.int a_own))]) rfl rfl ?_
  generalize ku_O_meetsChange rt xt 1000000000000 = K at i_3 ⊢
  refine sf_iconst sf_c0 (fun z41 ez41 => ?_)
  refine sf_istore (L' := [(0, .inl (.ref 28)), (1, .inl (.int a_good)), (2, .inl (.int a_zone)), (3, .inl (.int a_made)), (4, .inl (.int a_own))]) rfl ?_
  refine sf_can (L' := [(0, .inl (.ref 28)), (1, .inl (.int a_good)), (2, .inl (.int a_zone)), (3, .inl (.int a_made)), (4, .inl (.int a_own)), (5, .inl (.int z41))]) rfl ?_
  exact i_3 w0 z41 hI0 hs0 (by omega) (by omega) (by exact sm_Cz (by omega)) (by omega) (by omega)
def sm_O_meetsRule : List Nat := [11, 12]
set_option maxRecDepth 100000 in
set_option maxHeartbeats 4000000 in
theorem sc_O_meetsRule {w0 : wq_W} (hI0 : sf_I w0) {rt : Option wq_V → wq_W → Prop} {xt : Nat → wq_W → Prop} {a_good : Int32} {a_zone : Int32} {a_made : Int32} (p0 : 0 ≤ a_good.toInt) (p1 : a_good.toInt ≤ 15) (p2 : 0 ≤ a_zone.toInt) (p3 : a_zone.toInt ≤ 3) (p4 : sf_J (sf_a w0 3) (sf_a w0 2) (sf_f w0 1 0).toInt) (hR : ∀ (r : Int32) (w : wq_W), sf_I w → sf_m sm_O_meetsRule w0 w → 0 ≤ r.toInt → r.toInt ≤ 1 → (r.toInt = sp_i ((sm_V (sm_pc (sf_a w0 30)) (sm_g2 (sf_g w0 31)) (sm_gv (sf_g w0 32)) (sm_lg (sf_a w0 29 a_zone.toInt.toNat) (sf_g w0 33)) (sm_cl (sc_b (sf_a w0 2) (sf_a w0 6) (sf_a w0 7) (sf_a w0 8) (sf_a w0 9) (sf_a w0 3) (sp_ag (sf_g w0 10)) (sf_f w0 1 5).toInt (sf_f w0 1 0).toInt)) (sm_rc (sf_a w0 2) (sf_a w0 4)) (sm_ah (sf_a w0 4)) (sm_ah (sf_a w0 5))) (sb_t a_made) a_good.toInt.toNat)) → rt (some (.inl (.int r))) w) : ks_O_meetsRule [.inl (.ref 28), .inl (.int a_good), .inl (.int a_zone), .inl (.int a_made)] w0 rt xt := by
  have hs0 : sf_m sm_O_meetsRule w0 w0 := sf_m0
  refine sf_sp (L := [(0, .inl (.ref 28)), (1, .inl (.int a_good)), (2, .inl (.int a_zone)), (3, .inl (.int a_made))]) rfl rfl ?_
  refine sf_aload rfl ?_
  refine sf_getr hI0 rfl rfl ?_
  refine sf_iload rfl ?_
  refine sf_iald hI0 rfl (by omega) (fun v1 lv1 uv1 ev1 => ?_)
  have gN : (sm_pc (sf_a w0 30)) a_good.toInt.toNat = v1.toInt := ev1.symm
  refine sf_f1_eq (fun h2 => ?_) (fun h2 => ?_)
  · refine sf_iconst sf_cm1 (fun z3 ez3 => ?_)
    refine sf_istore (L' := [(0, .inl (.ref 28)), (1, .inl (.int a_good)), (2, .inl (.int a_zone)), (3, .inl (.int a_made))]) rfl ?_
    refine sf_iload rfl ?_
    refine sf_iconst sf_cm1 (fun z4 ez4 => ?_)
    refine sf_f2_eq (fun h5 => ?_) (fun h5 => absurd h5 (by omega))
    refine sf_iconst sf_cm1 (fun z6 ez6 => ?_)
    refine sf_istore (L' := [(4, .inl (.int z3)), (0, .inl (.ref 28)), (1, .inl (.int a_good)), (2, .inl (.int a_zone)), (3, .inl (.int a_made))]) rfl ?_
    refine sf_iload rfl ?_
    refine sf_iconst sf_cm1 (fun z7 ez7 => ?_)
    refine sf_f2_eq (fun h8 => ?_) (fun h8 => absurd h8 (by omega))
    refine sf_iconst sf_c0 (fun z9 ez9 => ?_)
    refine sf_zreturn (by omega) rfl rfl ?_
    exact hR _ _ hI0 hs0 (by omega) (by omega) (by rw [sm_VN (Or.inr (by omega))]; show _ = (0 : Int); omega)
  · refine sf_aload rfl ?_
    refine sf_getr hI0 rfl rfl ?_
    refine sf_iload rfl ?_
    refine sf_call2 rfl rfl rfl ?_
    refine sf_rv hI0 rfl ?_
    refine sc_T_classOf_K hI0 (by omega) (by omega) (by exact p4) (fun v10 w11 Iw11 tw11 lv10 uv10 q12_0 => ?_)
    have s13 := sf_mt hs0 tw11 rfl
    have gb : v10.toInt = (sc_b (sf_a w0 2) (sf_a w0 6) (sf_a w0 7) (sf_a w0 8) (sf_a w0 9) (sf_a w0 3) (sp_ag (sf_g w0 10)) (sf_f w0 1 5).toInt (sf_f w0 1 0).toInt) a_good.toInt := q12_0
    have gc := gb.trans (sm_cle (by omega))
    refine sf_istore (L' := [(0, .inl (.ref 28)), (1, .inl (.int a_good)), (2, .inl (.int a_zone)), (3, .inl (.int a_made))]) rfl ?_
    refine sf_iload rfl ?_
    refine sf_iconst sf_cm1 (fun z14 ez14 => ?_)
    refine sf_f2_eq (fun h15 => ?_) (fun h15 => ?_)
    · refine sf_iconst sf_cm1 (fun z16 ez16 => ?_)
      refine sf_istore (L' := [(4, .inl (.int v10)), (0, .inl (.ref 28)), (1, .inl (.int a_good)), (2, .inl (.int a_zone)), (3, .inl (.int a_made))]) rfl ?_
      refine sf_iload rfl ?_
      refine sf_iconst sf_cm1 (fun z17 ez17 => ?_)
      refine sf_f2_eq (fun h18 => ?_) (fun h18 => absurd h18 (by omega))
      refine sf_iconst sf_c0 (fun z19 ez19 => ?_)
      refine sf_zreturn (by omega) rfl rfl ?_
      exact hR _ _ Iw11 s13 (by omega) (by omega) (by rw [sm_VN (Or.inl (by rw [← gc]; unfold sm_rc; rw [sr_upN (by omega)]; omega))]; show _ = (0 : Int); omega)
    · refine sf_aload rfl ?_
      refine sf_getr Iw11 rfl rfl ?_
      refine sf_iload rfl ?_
      refine sf_call2 rfl rfl rfl ?_
      refine sf_rv Iw11 rfl ?_
      refine sc_T_headingWithRule Iw11 (by omega) (by omega) (fun v20 lv20 uv20 q21_0 => ?_)
      rw [sf_ma s13 (p := 2) rfl] at q21_0
      rw [sf_ma s13 (p := 4) rfl] at q21_0
      have gr := q21_0
      rw [gc] at gr
      refine sf_istore (L' := [(4, .inl (.int v10)), (0, .inl (.ref 28)), (1, .inl (.int a_good)), (2, .inl (.int a_zone)), (3, .inl (.int a_made))]) rfl ?_
      refine sf_iload rfl ?_
      refine sf_iconst sf_cm1 (fun z22 ez22 => ?_)
      refine sf_f2_eq (fun h23 => ?_) (fun h23 => ?_)
      · refine sf_iconst sf_c0 (fun z24 ez24 => ?_)
        refine sf_zreturn (by omega) rfl rfl ?_
        exact hR _ _ Iw11 s13 (by omega) (by omega) (by rw [sm_VN (Or.inl (by omega))]; show _ = (0 : Int); omega)
      · refine sf_aload rfl ?_
        refine sf_getr Iw11 rfl rfl ?_
        refine sf_getr Iw11 rfl rfl ?_
        refine sf_iload rfl ?_
        refine sf_iald Iw11 rfl (by omega) (fun v25 lv25 uv25 ev25 => ?_)
        rw [sf_ma s13 (p := 4) rfl] at ev25
        have gk : sm_ah (sf_a w0 4) (sm_rc (sf_a w0 2) (sf_a w0 4) ((sm_cl (sc_b (sf_a w0 2) (sf_a w0 6) (sf_a w0 7) (sf_a w0 8) (sf_a w0 9) (sf_a w0 3) (sp_ag (sf_g w0 10)) (sf_f w0 1 5).toInt (sf_f w0 1 0).toInt)) a_good.toInt.toNat)) = v25.toInt := by unfold sm_ah; rw [← gr]; exact ev25.symm
        refine sf_f1_eq (fun h26 => ?_) (fun h26 => ?_)
        · refine sf_aload rfl ?_
          refine sf_iload rfl ?_
          refine sf_iload rfl ?_
          refine sf_iload rfl ?_
          refine sf_iload rfl ?_
          refine sf_call5 rfl rfl rfl ?_
          refine sf_rv Iw11 rfl ?_
          refine sc_O_meetsChange Iw11 (by omega) (by omega) (by omega) (by omega) (by rw [sf_ma s13 (p := 3) rfl]; rw [sf_ma s13 (p := 2) rfl]; rw [sf_mf s13 (p := 1) (j := 0) rfl]; exact p4) (by rw [sf_ma s13 (p := 2) rfl]; rw [sf_ma s13 (p := 6) rfl]; rw [sf_ma s13 (p := 7) rfl]; rw [sf_ma s13 (p := 8) rfl]; rw [sf_ma s13 (p := 9) rfl]; rw [sf_ma s13 (p := 3) rfl]; rw [sf_mg s13 (p := 10) rfl]; rw [sf_mf s13 (p := 1) (j := 5) rfl]; rw [sf_mf s13 (p := 1) (j := 0) rfl]; exact gc) (fun v27 w28 Iw28 tw28 lv27 uv27 q29_0 => ?_)
          rw [sf_ma s13 (p := 2) rfl] at q29_0
          rw [sf_ma s13 (p := 3) rfl] at q29_0
          rw [sf_ma s13 (p := 6) rfl] at q29_0
          rw [sf_ma s13 (p := 7) rfl] at q29_0
          rw [sf_ma s13 (p := 8) rfl] at q29_0
          rw [sf_ma s13 (p := 9) rfl] at q29_0
          rw [sf_mg s13 (p := 10) rfl] at q29_0
          rw [sf_ma s13 (p := 29) rfl] at q29_0
          rw [sf_ma s13 (p := 30) rfl] at q29_0
          rw [sf_mg s13 (p := 31) rfl] at q29_0
          rw [sf_mg s13 (p := 33) rfl] at q29_0
          rw [sf_mf s13 (p := 1) (j := 0) rfl] at q29_0
          rw [sf_mf s13 (p := 1) (j := 5) rfl] at q29_0
          have s30 := sf_mt s13 tw28 rfl
          refine sf_zreturn (by omega) rfl rfl ?_
          exact hR _ _ Iw28 s30 (by omega) (by omega) (by rw [sm_VC (by omega) (by omega) (rfl : (sf_a w0 30 a_good.toInt.toNat).toInt.toNat = _)]; exact q29_0)
        · refine sf_aload rfl ?_
          refine sf_iload rfl ?_
          refine sf_iload rfl ?_
          refine sf_iload rfl ?_
          refine sf_aload rfl ?_
          refine sf_getr Iw11 rfl rfl ?_
          refine sf_getr Iw11 rfl rfl ?_
          refine sf_iload rfl ?_
          refine sf_iald Iw11 rfl (by omega) (fun v31 lv31 uv31 ev31 => ?_)
          rw [sf_ma s13 (p := 5) rfl] at ev31
          have gL : sm_ah (sf_a w0 5) (sm_rc (sf_a w0 2) (sf_a w0 4) ((sm_cl (sc_b (sf_a w0 2) (sf_a w0 6) (sf_a w0 7) (sf_a w0 8) (sf_a w0 9) (sf_a w0 3) (sp_ag (sf_g w0 10)) (sf_f w0 1 5).toInt (sf_f w0 1 0).toInt)) a_good.toInt.toNat)) = v31.toInt := by unfold sm_ah; rw [← gr]; exact ev31.symm
          refine sf_call5 rfl rfl rfl ?_
          refine sf_rv Iw11 rfl ?_
          refine sc_O_meetsShare Iw11 (by omega) (by omega) (by omega) (by omega) (by omega) (by omega) (fun v32 lv32 uv32 q33_0 => ?_)
          rw [sf_ma s13 (p := 29) rfl] at q33_0
          rw [sf_ma s13 (p := 30) rfl] at q33_0
          rw [sf_mg s13 (p := 31) rfl] at q33_0
          rw [sf_mg s13 (p := 32) rfl] at q33_0
          rw [sf_mg s13 (p := 33) rfl] at q33_0
          refine sf_zreturn (by omega) rfl rfl ?_
          exact hR _ _ Iw11 s13 (by omega) (by omega) (by rw [sm_VS (by omega) (by omega) (rfl : (sf_a w0 30 a_good.toInt.toNat).toInt.toNat = _) gL.symm]; exact q33_0)
def sm_O_isMadeIn : List Nat := [11, 12]
set_option maxRecDepth 100000 in
set_option maxHeartbeats 4000000 in
theorem sc_O_isMadeIn {w0 : wq_W} (hI0 : sf_I w0) {rt : Option wq_V → wq_W → Prop} {xt : Nat → wq_W → Prop} {a_good : Int32} {a_zone : Int32} (p0 : 0 ≤ a_good.toInt) (p1 : a_good.toInt ≤ 15) (p2 : 0 ≤ a_zone.toInt) (p3 : a_zone.toInt ≤ 3) (p4 : sf_J (sf_a w0 3) (sf_a w0 2) (sf_f w0 1 0).toInt) (p5 : sm_ci (sf_a w0 34) (sf_a w0 30) (sm_g2 (sf_g w0 31))) (hR : ∀ (r : Int32) (w : wq_W), sf_I w → sf_m sm_O_isMadeIn w0 w → 0 ≤ r.toInt → r.toInt ≤ 1 → (r.toInt = sp_i ((sm_D (sm_V (sm_pc (sf_a w0 30)) (sm_g2 (sf_g w0 31)) (sm_gv (sf_g w0 32)) (sm_lg (sf_a w0 29 a_zone.toInt.toNat) (sf_g w0 33)) (sm_cl (sc_b (sf_a w0 2) (sf_a w0 6) (sf_a w0 7) (sf_a w0 8) (sf_a w0 9) (sf_a w0 3) (sp_ag (sf_g w0 10)) (sf_f w0 1 5).toInt (sf_f w0 1 0).toInt)) (sm_rc (sf_a w0 2) (sf_a w0 4)) (sm_ah (sf_a w0 4)) (sm_ah (sf_a w0 5))) 16) a_good.toInt.toNat)) → rt (some (.inl (.int r))) w) : ks_O_isMadeIn [.inl (.ref 28), .inl (.int a_good), .inl (.int a_zone)] w0 rt xt := by
  have hs0 : sf_m sm_O_isMadeIn w0 w0 := sf_m0
  have hc15 := sm_cir p5 a_good.toInt.toNat (by omega)
  have hcg := hc15.1
  clear hc15
  have hl : ∀ n : Nat, (∀ (w : wq_W) (x3 : Int32) (x4 : Int32) (x5 : Int32), (sf_I w) → (sf_m sm_O_isMadeIn w0 w) → (0 ≤ x3.toInt) → (x3.toInt ≤ 65535) → (0 ≤ x4.toInt) → (x4.toInt ≤ 65535) → (0 ≤ x5.toInt) → (x5.toInt ≤ 17) → (sm_as x3 (sf_a w0 34) a_good.toInt.toNat) → (sm_B (sb_t x4) (sm_ak (sf_a w0 34) a_good.toInt.toNat) (sm_ik (sf_a w0 34)) (sm_D (sm_V (sm_pc (sf_a w0 30)) (sm_g2 (sf_g w0 31)) (sm_gv (sf_g w0 32)) (sm_lg (sf_a w0 29 a_zone.toInt.toNat) (sf_g w0 33)) (sm_cl (sc_b (sf_a w0 2) (sf_a w0 6) (sf_a w0 7) (sf_a w0 8) (sf_a w0 9) (sf_a w0 3) (sp_ag (sf_g w0 10)) (sf_f w0 1 5).toInt (sf_f w0 1 0).toInt)) (sm_rc (sf_a w0 2) (sf_a w0 4)) (sm_ah (sf_a w0 4)) (sm_ah (sf_a w0 5))) 16) x5.toInt.toNat 0) → (x5.toInt ≤ (sm_ik (sf_a w0 34) a_good.toInt.toNat : Int) + 1) → ((65 - x5.toInt) * 20 < (n : Int)) → ku_O_isMadeIn rt xt n 17 [(0, .inl (.ref 28)), (1, .inl (.int a_good)), (2, .inl (.int a_zone)), (3, .inl (.int x3)), (4, .inl (.int x4)), (5, .inl (.int x5))] [] w 0 0) ∧ (∀ (w : wq_W) (x3 : Int32) (x4 : Int32) (x5 : Int32) (x6 : Int32), (sf_I w) → (sf_m sm_O_isMadeIn w0 w) → (0 ≤ x3.toInt) → (x3.toInt ≤ 65535) → (0 ≤ x4.toInt) → (x4.toInt ≤ 65535) → (0 ≤ x5.toInt) → (x5.toInt ≤ 16) → (0 ≤ x6.toInt) → (x6.toInt ≤ 16) → (sm_as x3 (sf_a w0 34) a_good.toInt.toNat) → (sm_B (sb_t x4) (sm_ak (sf_a w0 34) a_good.toInt.toNat) (sm_ik (sf_a w0 34)) (sm_D (sm_V (sm_pc (sf_a w0 30)) (sm_g2 (sf_g w0 31)) (sm_gv (sf_g w0 32)) (sm_lg (sf_a w0 29 a_zone.toInt.toNat) (sf_g w0 33)) (sm_cl (sc_b (sf_a w0 2) (sf_a w0 6) (sf_a w0 7) (sf_a w0 8) (sf_a w0 9) (sf_a w0 3) (sp_ag (sf_g w0 10)) (sf_f w0 1 5).toInt (sf_f w0 1 0).toInt)) (sm_rc (sf_a w0 2) (sf_a w0 4)) (sm_ah (sf_a w0 4)) (sm_ah (sf_a w0 5))) 16) x5.toInt.toNat x6.toInt.toNat) → (x5.toInt ≤ (sm_ik (sf_a w0 34) a_good.toInt.toNat : Int)) → ((65 - x5.toInt) * 20 - 1 - x6.toInt < (n : Int)) → ku_O_isMadeIn rt xt n 34 [(0, .inl (.ref 28)), (1, .inl (.int a_good)), (2, .inl (.int a_zone)), (3, .inl (.int x3)), (4, .inl (.int x4)), (5, .inl (.int x5)), (6, .inl (.int x6))] [] w 0 0) := by
    intro n
    induction n with
    | zero =>
      refine ⟨?_, ?_⟩
      · intros; omega
      · intros; omega
    | succ n ih =>
      obtain ⟨i_17, i_34⟩ := ih
      refine ⟨?_, ?_⟩
      · intro w x3 x4 x5 I_w s_w l_x3 u_x3 l_x4 u_x4 l_x5 u_x5 f_0 f_1 f_2 hm
        show kh_O_isMadeIn_17 rt xt (ku_O_isMadeIn rt xt n) [(0, .inl (.ref 28)), (1, .inl (.int a_good)), (2, .inl (.int a_zone)), (3, .inl (.int x3)), (4, .inl (.int x4)), (5, .inl (.int x5))] [] w 0 0
        generalize ku_O_isMadeIn rt xt n = K at i_17 i_34 ⊢
        refine sf_iload rfl ?_
        refine sf_aload rfl ?_
        refine sf_getr I_w rfl rfl ?_
        refine sf_iload rfl ?_
        refine sf_iald I_w rfl (by omega) (fun v1 lv1 uv1 ev1 => ?_)
        rw [sf_ma s_w (p := 34) rfl] at ev1
        have gi := sb_eq ev1
        skip
        refine sf_call1 rfl rfl rfl ?_
        refine sc_I_bitCount I_w (by omega) (by omega) (fun v2 q3_0 => ?_)
        have gb1 : v2.toInt = (sm_ik (sf_a w0 34) a_good.toInt.toNat : Int) := by unfold sm_ik; rw [← gi]; exact q3_0
        refine sf_f2_gt (fun h4 => ?_) (fun h4 => ?_)
        · refine sf_iload rfl ?_
          refine sf_iload rfl ?_
          refine sf_call2 rfl rfl rfl ?_
          refine sc_O_has I_w (by omega) (by omega) (fun v5 lv5 uv5 q6_0 => ?_)
          have gq := q6_0
          refine sf_zreturn (by omega) rfl rfl ?_
          exact hR _ _ I_w s_w (by omega) (by omega) (by have h8 := sm_BE f_1 (x := a_good.toInt.toNat) (by omega) sm_akg (by omega); rw [← h8]; exact gq)
        · refine sf_iconst sf_c0 (fun z7 ez7 => ?_)
          refine sf_istore (L' := [(0, .inl (.ref 28)), (1, .inl (.int a_good)), (2, .inl (.int a_zone)), (3, .inl (.int x3)), (4, .inl (.int x4)), (5, .inl (.int x5))]) rfl ?_
          refine sf_can (L' := [(0, .inl (.ref 28)), (1, .inl (.int a_good)), (2, .inl (.int a_zone)), (3, .inl (.int x3)), (4, .inl (.int x4)), (5, .inl (.int x5)), (6, .inl (.int z7))]) rfl ?_
          exact i_34 w x3 x4 x5 z7 I_w s_w (by omega) (by omega) (by omega) (by omega) (by omega) (by omega) (by omega) (by omega) (by exact f_0) (by rw [show z7.toInt.toNat = 0 by omega]; exact f_1) (by omega) (by omega)
      · intro w x3 x4 x5 x6 I_w s_w l_x3 u_x3 l_x4 u_x4 l_x5 u_x5 l_x6 u_x6 f_0 f_1 f_2 hm
        show kh_O_isMadeIn_34 rt xt (ku_O_isMadeIn rt xt n) [(0, .inl (.ref 28)), (1, .inl (.int a_good)), (2, .inl (.int a_zone)), (3, .inl (.int x3)), (4, .inl (.int x4)), (5, .inl (.int x5)), (6, .inl (.int x6))] [] w 0 0
        generalize ku_O_isMadeIn rt xt n = K at i_17 i_34 ⊢
        refine sf_iload rfl ?_
        refine sf_iconst sf_c16 (fun z8 ez8 => ?_)
        refine sf_f2_ge (fun h9 => ?_) (fun h9 => ?_)
        · refine sf_iinc (L' := [(0, .inl (.ref 28)), (1, .inl (.int a_good)), (2, .inl (.int a_zone)), (3, .inl (.int x3)), (4, .inl (.int x4)), (6, .inl (.int x6))]) sf_c1 rfl rfl (by omega) (fun v10 ev10 => ?_)
          refine sf_can (L' := [(0, .inl (.ref 28)), (1, .inl (.int a_good)), (2, .inl (.int a_zone)), (3, .inl (.int x3)), (4, .inl (.int x4)), (5, .inl (.int v10))]) rfl ?_
          exact i_17 w x3 x4 v10 I_w s_w (by omega) (by omega) (by omega) (by omega) (by omega) (by omega) (by exact f_0) (by exact sm_BN f_1 (by omega) (by omega) rfl) (by omega) (by omega)
        · refine sf_iload rfl ?_
          refine sf_iload rfl ?_
          refine sf_call2 rfl rfl rfl ?_
          refine sc_O_has I_w (by omega) (by omega) (fun v11 lv11 uv11 q12_0 => ?_)
          have gq := q12_0
          refine sf_f1_eq (fun h13 => ?_) (fun h13 => ?_)
          · refine sf_iinc (L' := [(0, .inl (.ref 28)), (1, .inl (.int a_good)), (2, .inl (.int a_zone)), (3, .inl (.int x3)), (4, .inl (.int x4)), (5, .inl (.int x5))]) sf_c1 rfl rfl (by omega) (fun v14 ev14 => ?_)
            refine sf_can (L' := [(0, .inl (.ref 28)), (1, .inl (.int a_good)), (2, .inl (.int a_zone)), (3, .inl (.int x3)), (4, .inl (.int x4)), (5, .inl (.int x5)), (6, .inl (.int v14))]) rfl ?_
            exact i_34 w x3 x4 x5 v14 I_w s_w (by omega) (by omega) (by omega) (by omega) (by omega) (by omega) (by omega) (by omega) (by exact f_0) (by exact sm_BS f_1 (e := x6.toInt.toNat) (by omega) (by omega) (Or.inl ⟨rfl, Or.inl ((f_0 _ (by omega)).symm.trans (sp_iF (by omega)))⟩)) (by omega) (by omega)
          · refine sf_aload rfl ?_
            refine sf_getr I_w rfl rfl ?_
            refine sf_iload rfl ?_
            refine sf_iald I_w rfl (by omega) (fun v15 lv15 uv15 ev15 => ?_)
            rw [sf_ma s_w (p := 34) rfl] at ev15
            have gi := sb_eq ev15
            skip
            refine sf_call1 rfl rfl rfl ?_
            refine sc_I_bitCount I_w (by omega) (by omega) (fun v16 q17_0 => ?_)
            have gb3 : v16.toInt = (sm_ik (sf_a w0 34) x6.toInt.toNat : Int) := by unfold sm_ik; rw [← gi]; exact q17_0
            refine sf_iload rfl ?_
            refine sf_f2_eq (fun h18 => ?_) (fun h18 => ?_)
            · refine sf_aload rfl ?_
              refine sf_iload rfl ?_
              refine sf_iload rfl ?_
              refine sf_iload rfl ?_
              refine sf_call4 rfl rfl rfl ?_
              refine sf_rv I_w rfl ?_
              refine sc_O_meetsRule I_w (by omega) (by omega) (by omega) (by omega) (by rw [sf_ma s_w (p := 3) rfl]; rw [sf_ma s_w (p := 2) rfl]; rw [sf_mf s_w (p := 1) (j := 0) rfl]; exact p4) (fun v19 w20 Iw20 tw20 lv19 uv19 q21_0 => ?_)
              rw [sf_ma s_w (p := 2) rfl] at q21_0
              rw [sf_ma s_w (p := 3) rfl] at q21_0
              rw [sf_ma s_w (p := 4) rfl] at q21_0
              rw [sf_ma s_w (p := 5) rfl] at q21_0
              rw [sf_ma s_w (p := 6) rfl] at q21_0
              rw [sf_ma s_w (p := 7) rfl] at q21_0
              rw [sf_ma s_w (p := 8) rfl] at q21_0
              rw [sf_ma s_w (p := 9) rfl] at q21_0
              rw [sf_mg s_w (p := 10) rfl] at q21_0
              rw [sf_ma s_w (p := 29) rfl] at q21_0
              rw [sf_ma s_w (p := 30) rfl] at q21_0
              rw [sf_mg s_w (p := 31) rfl] at q21_0
              rw [sf_mg s_w (p := 32) rfl] at q21_0
              rw [sf_mg s_w (p := 33) rfl] at q21_0
              rw [sf_mf s_w (p := 1) (j := 0) rfl] at q21_0
              rw [sf_mf s_w (p := 1) (j := 5) rfl] at q21_0
              have s22 := sf_mt s_w tw20 rfl
              have gb2 : sm_ik (sf_a w0 34) x6.toInt.toNat = x5.toInt.toNat := by omega
              have ga : sm_ak (sf_a w0 34) a_good.toInt.toNat x6.toInt.toNat = true := (f_0 _ (by omega)).symm.trans (sp_iT (by omega))
              have hD := sm_BV sm_Vlo p5 (by omega) (by omega) f_1 ga gb2
              have gV := q21_0
              refine sf_f1_eq (fun h23 => ?_) (fun h23 => ?_)
              · refine sf_iinc (L' := [(0, .inl (.ref 28)), (1, .inl (.int a_good)), (2, .inl (.int a_zone)), (3, .inl (.int x3)), (4, .inl (.int x4)), (5, .inl (.int x5))]) sf_c1 rfl rfl (by omega) (fun v24 ev24 => ?_)
                refine sf_can (L' := [(0, .inl (.ref 28)), (1, .inl (.int a_good)), (2, .inl (.int a_zone)), (3, .inl (.int x3)), (4, .inl (.int x4)), (5, .inl (.int x5)), (6, .inl (.int v24))]) rfl ?_
                exact i_34 w20 x3 x4 x5 v24 Iw20 s22 (by omega) (by omega) (by omega) (by omega) (by omega) (by omega) (by omega) (by omega) (by exact f_0) (by exact sm_BS f_1 (e := x6.toInt.toNat) (by omega) (by omega) (Or.inl ⟨rfl, Or.inr (Or.inr (hD.symm.trans (sp_iF (by omega))))⟩)) (by omega) (by omega)
              · refine sf_iload rfl ?_
                refine sf_iconst sf_c1 (fun z25 ez25 => ?_)
                refine sf_iload rfl ?_
                refine sf_ishlE (by omega) (by omega) (fun v26 lv26 uv26 ev26 => ?_)
                have gsh := ev26
                have gsy := ez25
                refine sf_iorE (by omega) (by omega) (fun v27 lv27 uv27 ev27 => ?_)
                have gor := ev27
                refine sf_istore (L' := [(0, .inl (.ref 28)), (1, .inl (.int a_good)), (2, .inl (.int a_zone)), (3, .inl (.int x3)), (5, .inl (.int x5)), (6, .inl (.int x6))]) rfl ?_
                refine sf_iinc (L' := [(4, .inl (.int v27)), (0, .inl (.ref 28)), (1, .inl (.int a_good)), (2, .inl (.int a_zone)), (3, .inl (.int x3)), (5, .inl (.int x5))]) sf_c1 rfl rfl (by omega) (fun v28 ev28 => ?_)
                refine sf_can (L' := [(0, .inl (.ref 28)), (1, .inl (.int a_good)), (2, .inl (.int a_zone)), (3, .inl (.int x3)), (4, .inl (.int v27)), (5, .inl (.int x5)), (6, .inl (.int v28))]) rfl ?_
                exact i_34 w20 x3 v27 x5 v28 Iw20 s22 (by omega) (by omega) (by omega) (by omega) (by omega) (by omega) (by omega) (by omega) (by exact f_0) (by exact sm_BS f_1 (e := x6.toInt.toNat) (by omega) (by omega) (Or.inr ⟨ga, gb2, hD.symm.trans (sp_iT (by omega)), sm_mad gsy gsh gor (by omega) (by omega)⟩)) (by omega) (by omega)
            · refine sf_iinc (L' := [(0, .inl (.ref 28)), (1, .inl (.int a_good)), (2, .inl (.int a_zone)), (3, .inl (.int x3)), (4, .inl (.int x4)), (5, .inl (.int x5))]) sf_c1 rfl rfl (by omega) (fun v29 ev29 => ?_)
              refine sf_can (L' := [(0, .inl (.ref 28)), (1, .inl (.int a_good)), (2, .inl (.int a_zone)), (3, .inl (.int x3)), (4, .inl (.int x4)), (5, .inl (.int x5)), (6, .inl (.int v29))]) rfl ?_
              exact i_34 w x3 x4 x5 v29 I_w s_w (by omega) (by omega) (by omega) (by omega) (by omega) (by omega) (by omega) (by omega) (by exact f_0) (by exact sm_BS f_1 (e := x6.toInt.toNat) (by omega) (by omega) (Or.inl ⟨rfl, Or.inr (Or.inl (by omega))⟩)) (by omega) (by omega)
  have hl1 := hl 1000000000000
  obtain ⟨i_17, i_34⟩ := hl1
  clear hl
  refine sf_sp (L := [(0, .inl (.ref 28)), (1, .inl (.int a_good)), (2, .inl (.int a_zone))]) rfl rfl ?_
  generalize ku_O_isMadeIn rt xt 1000000000000 = K at i_17 i_34 ⊢
  refine sf_aload rfl ?_
  refine sf_getr hI0 rfl rfl ?_
  refine sf_iload rfl ?_
  refine sf_iald hI0 rfl (by omega) (fun v30 lv30 uv30 ev30 => ?_)
  have gi := sb_eq ev30
  have giv := ev30
  refine sf_iconst sf_c1 (fun z31 ez31 => ?_)
  refine sf_iload rfl ?_
  refine sf_ishlE (by omega) (by omega) (fun v32 lv32 uv32 ev32 => ?_)
  have gsh := ev32
  have gsy := ez31
  refine sf_iorE (by omega) (by omega) (fun v33 lv33 uv33 ev33 => ?_)
  have gas := sm_asm giv gsy gsh ev33 (by omega) (by omega)
  refine sf_istore (L' := [(0, .inl (.ref 28)), (1, .inl (.int a_good)), (2, .inl (.int a_zone))]) rfl ?_
  refine sf_iconst sf_c0 (fun z34 ez34 => ?_)
  refine sf_istore (L' := [(3, .inl (.int v33)), (0, .inl (.ref 28)), (1, .inl (.int a_good)), (2, .inl (.int a_zone))]) rfl ?_
  refine sf_iconst sf_c0 (fun z35 ez35 => ?_)
  refine sf_istore (L' := [(4, .inl (.int z34)), (3, .inl (.int v33)), (0, .inl (.ref 28)), (1, .inl (.int a_good)), (2, .inl (.int a_zone))]) rfl ?_
  refine sf_can (L' := [(0, .inl (.ref 28)), (1, .inl (.int a_good)), (2, .inl (.int a_zone)), (3, .inl (.int v33)), (4, .inl (.int z34)), (5, .inl (.int z35))]) rfl ?_
  exact i_17 w0 v33 z34 z35 hI0 hs0 (by omega) (by omega) (by omega) (by omega) (by omega) (by omega) (by exact gas) (by exact sm_B0 (fun x _ => sm_z0 (by omega) x) (by omega) rfl) (by omega) (by omega)
def sm_D_isLaterAccepted : List Nat := []
set_option maxRecDepth 100000 in
set_option maxHeartbeats 4000000 in
theorem sc_D_isLaterAccepted {w0 : wq_W} (hI0 : sf_I w0) {rt : Option wq_V → wq_W → Prop} {xt : Nat → wq_W → Prop} {a_declaration : Int32} (p0 : 0 ≤ a_declaration.toInt) (p1 : a_declaration.toInt ≤ 11) (hR : ∀ (r : Int32), 0 ≤ r.toInt → r.toInt ≤ 1 → rt (some (.inl (.int r))) w0) : ks_D_isLaterAccepted [.inl (.ref 35), .inl (.int a_declaration)] w0 rt xt := by
  have hl : ∀ n : Nat, (∀ (x2 : Int32), (0 ≤ x2.toInt) → (x2.toInt ≤ 12) → (12 - x2.toInt < (n : Int)) → ku_D_isLaterAccepted rt xt n 2 [(0, .inl (.ref 35)), (1, .inl (.int a_declaration)), (2, .inl (.int x2))] [] w0 0 0) := by
    intro n
    induction n with
    | zero =>
      refine ?_
      · intros; omega
    | succ n ih =>
      have i_2 := ih
      intro x2 l_x2 u_x2 hm
      show kh_D_isLaterAccepted_2 rt xt (ku_D_isLaterAccepted rt xt n) [(0, .inl (.ref 35)), (1, .inl (.int a_declaration)), (2, .inl (.int x2))] [] w0 0 0
      generalize ku_D_isLaterAccepted rt xt n = K at i_2 ⊢
      refine sf_iload rfl ?_
      refine sf_aload rfl ?_
      refine sf_geti hI0 rfl rfl (fun v1 lv1 uv1 ev1 => ?_)
      refine sf_f2_ge (fun h2 => ?_) (fun h2 => ?_)
      · refine sf_iconst sf_c0 (fun z3 ez3 => ?_)
        refine sf_zreturn (by omega) rfl rfl ?_
        exact hR _ (by omega) (by omega) 
      · refine sf_aload rfl ?_
        refine sf_getr hI0 rfl rfl ?_
        refine sf_iload rfl ?_
        refine sf_zald hI0 rfl (by omega) (fun v4 lv4 uv4 ev4 => ?_)
        refine sf_f1_eq (fun h5 => ?_) (fun h5 => ?_)
        · refine sf_iinc (L' := [(0, .inl (.ref 35)), (1, .inl (.int a_declaration))]) sf_c1 rfl rfl (by omega) (fun v6 ev6 => ?_)
          refine sf_can (L' := [(0, .inl (.ref 35)), (1, .inl (.int a_declaration)), (2, .inl (.int v6))]) rfl ?_
          exact i_2 v6 (by omega) (by omega) (by omega)
        · refine sf_aload rfl ?_
          refine sf_iload rfl ?_
          refine sf_iload rfl ?_
          refine sf_call3 rfl rfl rfl ?_
          refine sf_rv hI0 rfl ?_
          refine sf_sp (L := [(0, .inl (.ref 35)), (1, .inl (.int x2)), (2, .inl (.int a_declaration))]) rfl rfl ?_
          refine sf_aload rfl ?_
          refine sf_getr hI0 rfl rfl ?_
          refine sf_iload rfl ?_
          refine sf_iald hI0 rfl (by omega) (fun v7 lv7 uv7 ev7 => ?_)
          clear lv7 uv7
          clear ev7
          refine sf_aload rfl ?_
          refine sf_getr hI0 rfl rfl ?_
          refine sf_iload rfl ?_
          refine sf_iald hI0 rfl (by omega) (fun v8 lv8 uv8 ev8 => ?_)
          clear lv8 uv8
          clear ev8
          refine sf_f2_eq (fun h9 => ?_) (fun h9 => ?_)
          · refine sf_aload rfl ?_
            refine sf_getr hI0 rfl rfl ?_
            refine sf_iload rfl ?_
            refine sf_iald hI0 rfl (by omega) (fun v10 lv10 uv10 ev10 => ?_)
            clear lv10 uv10
            clear ev10
            refine sf_aload rfl ?_
            refine sf_getr hI0 rfl rfl ?_
            refine sf_iload rfl ?_
            refine sf_iald hI0 rfl (by omega) (fun v11 lv11 uv11 ev11 => ?_)
            clear lv11 uv11
            clear ev11
            refine sf_f2_eq (fun h12 => ?_) (fun h12 => ?_)
            · refine sf_iload rfl ?_
              refine sf_iload rfl ?_
              refine sf_f2_le (fun h13 => ?_) (fun h13 => ?_)
              · refine sf_iconst sf_c0 (fun z14 ez14 => ?_)
                refine sf_zreturn (by omega) rfl rfl ?_
                refine sf_f1_eq (fun h15 => ?_) (fun h15 => absurd h15 (by omega))
                refine sf_iinc (L' := [(0, .inl (.ref 35)), (1, .inl (.int a_declaration))]) sf_c1 rfl rfl (by omega) (fun v16 ev16 => ?_)
                refine sf_can (L' := [(0, .inl (.ref 35)), (1, .inl (.int a_declaration)), (2, .inl (.int v16))]) rfl ?_
                exact i_2 v16 (by omega) (by omega) (by omega)
              · refine sf_iconst sf_c1 (fun z17 ez17 => ?_)
                refine sf_zreturn (by omega) rfl rfl ?_
                refine sf_f1_eq (fun h18 => absurd h18 (by omega)) (fun h18 => ?_)
                refine sf_iconst sf_c1 (fun z19 ez19 => ?_)
                refine sf_zreturn (by omega) rfl rfl ?_
                exact hR _ (by omega) (by omega) 
            · refine sf_aload rfl ?_
              refine sf_getr hI0 rfl rfl ?_
              refine sf_iload rfl ?_
              refine sf_iald hI0 rfl (by omega) (fun v20 lv20 uv20 ev20 => ?_)
              clear lv20 uv20
              clear ev20
              refine sf_aload rfl ?_
              refine sf_getr hI0 rfl rfl ?_
              refine sf_iload rfl ?_
              refine sf_iald hI0 rfl (by omega) (fun v21 lv21 uv21 ev21 => ?_)
              clear lv21 uv21
              clear ev21
              refine sf_f2_le (fun h22 => ?_) (fun h22 => ?_)
              · refine sf_iconst sf_c0 (fun z23 ez23 => ?_)
                refine sf_zreturn (by omega) rfl rfl ?_
                refine sf_f1_eq (fun h24 => ?_) (fun h24 => absurd h24 (by omega))
                refine sf_iinc (L' := [(0, .inl (.ref 35)), (1, .inl (.int a_declaration))]) sf_c1 rfl rfl (by omega) (fun v25 ev25 => ?_)
                refine sf_can (L' := [(0, .inl (.ref 35)), (1, .inl (.int a_declaration)), (2, .inl (.int v25))]) rfl ?_
                exact i_2 v25 (by omega) (by omega) (by omega)
              · refine sf_iconst sf_c1 (fun z26 ez26 => ?_)
                refine sf_zreturn (by omega) rfl rfl ?_
                refine sf_f1_eq (fun h27 => absurd h27 (by omega)) (fun h27 => ?_)
                refine sf_iconst sf_c1 (fun z28 ez28 => ?_)
                refine sf_zreturn (by omega) rfl rfl ?_
                exact hR _ (by omega) (by omega) 
          · refine sf_aload rfl ?_
            refine sf_getr hI0 rfl rfl ?_
            refine sf_iload rfl ?_
            refine sf_iald hI0 rfl (by omega) (fun v29 lv29 uv29 ev29 => ?_)
            clear lv29 uv29
            clear ev29
            refine sf_aload rfl ?_
            refine sf_getr hI0 rfl rfl ?_
            refine sf_iload rfl ?_
            refine sf_iald hI0 rfl (by omega) (fun v30 lv30 uv30 ev30 => ?_)
            clear lv30 uv30
            clear ev30
            refine sf_f2_le (fun h31 => ?_) (fun h31 => ?_)
            · refine sf_iconst sf_c0 (fun z32 ez32 => ?_)
              refine sf_zreturn (by omega) rfl rfl ?_
              refine sf_f1_eq (fun h33 => ?_) (fun h33 => absurd h33 (by omega))
              refine sf_iinc (L' := [(0, .inl (.ref 35)), (1, .inl (.int a_declaration))]) sf_c1 rfl rfl (by omega) (fun v34 ev34 => ?_)
              refine sf_can (L' := [(0, .inl (.ref 35)), (1, .inl (.int a_declaration)), (2, .inl (.int v34))]) rfl ?_
              exact i_2 v34 (by omega) (by omega) (by omega)
            · refine sf_iconst sf_c1 (fun z35 ez35 => ?_)
              refine sf_zreturn (by omega) rfl rfl ?_
              refine sf_f1_eq (fun h36 => absurd h36 (by omega)) (fun h36 => ?_)
              refine sf_iconst sf_c1 (fun z37 ez37 => ?_)
              refine sf_zreturn (by omega) rfl rfl ?_
              exact hR _ (by omega) (by omega) 
  have hl1 := hl 1000000000000
  have i_2 := hl1
  clear hl hl1
  refine sf_sp (L := [(0, .inl (.ref 35)), (1, .inl (.int a_declaration))]) rfl rfl ?_
  generalize ku_D_isLaterAccepted rt xt 1000000000000 = K at i_2 ⊢
  refine sf_iconst sf_c0 (fun z38 ez38 => ?_)
  refine sf_istore (L' := [(0, .inl (.ref 35)), (1, .inl (.int a_declaration))]) rfl ?_
  refine sf_can (L' := [(0, .inl (.ref 35)), (1, .inl (.int a_declaration)), (2, .inl (.int z38))]) rfl ?_
  exact i_2 z38 (by omega) (by omega) (by omega)
def sm_D_dutyOfAll : List Nat := []
set_option maxRecDepth 100000 in
set_option maxHeartbeats 4000000 in
theorem sc_D_dutyOfAll {w0 : wq_W} (hI0 : sf_I w0) {rt : Option wq_V → wq_W → Prop} {xt : Nat → wq_W → Prop} {a_declaration : Int32} (p0 : 0 ≤ a_declaration.toInt) (p1 : a_declaration.toInt ≤ 11) (hR : ∀ (r : Int64), rt (some (.inl (.long r))) w0) : ks_D_dutyOfAll [.inl (.ref 35), .inl (.int a_declaration)] w0 rt xt := by
  have hl : ∀ n : Nat, (∀ (x2 : Int64) (x4 : Int32), (0 ≤ x4.toInt) → (x4.toInt ≤ 4) → (4 - x4.toInt < (n : Int)) → ku_D_dutyOfAll rt xt n 5 [(0, .inl (.ref 35)), (1, .inl (.int a_declaration)), (2, .inl (.long x2)), (4, .inl (.int x4))] [] w0 0 0) := by
    intro n
    induction n with
    | zero =>
      refine ?_
      · intros; omega
    | succ n ih =>
      have i_5 := ih
      intro x2 x4 l_x4 u_x4 hm
      show kh_D_dutyOfAll_5 rt xt (ku_D_dutyOfAll rt xt n) [(0, .inl (.ref 35)), (1, .inl (.int a_declaration)), (2, .inl (.long x2)), (4, .inl (.int x4))] [] w0 0 0
      generalize ku_D_dutyOfAll rt xt n = K at i_5 ⊢
      refine sf_iload rfl ?_
      refine sf_aload rfl ?_
      refine sf_getr hI0 rfl rfl ?_
      refine sf_iload rfl ?_
      refine sf_iald hI0 rfl (by omega) (fun v1 lv1 uv1 ev1 => ?_)
      refine sf_f2_ge (fun h2 => ?_) (fun h2 => ?_)
      · refine sf_lload rfl ?_
        refine sf_lreturn rfl rfl ?_
        exact hR _ 
      · refine sf_lload rfl ?_
        refine sf_aload rfl ?_
        refine sf_getr hI0 rfl rfl ?_
        refine sf_iload rfl ?_
        refine sf_iload rfl ?_
        refine sf_call2 rfl rfl rfl ?_
        refine sf_sp (L := [(0, .inl (.int a_declaration)), (1, .inl (.int x4))]) rfl rfl ?_
        refine sf_iload rfl ?_
        refine sf_iconst sf_c4 (fun z3 ez3 => ?_)
        refine sf_imulr (n := 4) (by omega) (by omega) (fun v4 ev4 => ?_)
        refine sf_iload rfl ?_
        refine sf_iadd (by omega) (fun v5 ev5 => ?_)
        refine sf_ireturn rfl rfl ?_
        refine sf_lald hI0 rfl (by omega) (fun v6 ev6 => ?_)
        clear ev6
        refine sf_l2 (fun v7 => ?_)
        refine sf_lstore (L' := [(0, .inl (.ref 35)), (1, .inl (.int a_declaration)), (4, .inl (.int x4))]) rfl ?_
        refine sf_iinc (L' := [(2, .inl (.long v7)), (0, .inl (.ref 35)), (1, .inl (.int a_declaration))]) sf_c1 rfl rfl (by omega) (fun v8 ev8 => ?_)
        refine sf_can (L' := [(0, .inl (.ref 35)), (1, .inl (.int a_declaration)), (2, .inl (.long v7)), (4, .inl (.int v8))]) rfl ?_
        exact i_5 v7 v8 (by omega) (by omega) (by omega)
  have hl1 := hl 1000000000000
  have i_5 := hl1
  clear hl hl1
  refine sf_sp (L := [(0, .inl (.ref 35)), (1, .inl (.int a_declaration))]) rfl rfl ?_
  generalize ku_D_dutyOfAll rt xt 1000000000000 = K at i_5 ⊢
  refine sf_lconst (by decide : (0 : Int64).toInt = 0) (fun z9 ez9 => ?_)
  refine sf_lstore (L' := [(0, .inl (.ref 35)), (1, .inl (.int a_declaration))]) rfl ?_
  refine sf_iconst sf_c0 (fun z10 ez10 => ?_)
  refine sf_istore (L' := [(2, .inl (.long z9)), (0, .inl (.ref 35)), (1, .inl (.int a_declaration))]) rfl ?_
  refine sf_can (L' := [(0, .inl (.ref 35)), (1, .inl (.int a_declaration)), (2, .inl (.long z9)), (4, .inl (.int z10))]) rfl ?_
  exact i_5 z9 z10 (by omega) (by omega) (by omega)
def sm_L_unitsLeft : List Nat := []
set_option maxRecDepth 100000 in
set_option maxHeartbeats 4000000 in
theorem sc_L_unitsLeft {w0 : wq_W} (hI0 : sf_I w0) {rt : Option wq_V → wq_W → Prop} {xt : Nat → wq_W → Prop} {a_ofGood : Int32} {a_ofHeld : Int32} (p0 : 0 ≤ a_ofHeld.toInt) (p1 : a_ofHeld.toInt ≤ 1) (hR : ∀ (r : Int32), rt (some (.inl (.int r))) w0) : ks_L_unitsLeft [.inl (.ref 60), .inl (.int a_ofGood), .inl (.int a_ofHeld)] w0 rt xt := by
  have hl : ∀ n : Nat, (∀ (x3 : Int32) (x4 : Int32), (0 ≤ x4.toInt) → (x4.toInt ≤ 40) → (40 - x4.toInt < (n : Int)) → ku_L_unitsLeft rt xt n 5 [(0, .inl (.ref 60)), (1, .inl (.int a_ofGood)), (2, .inl (.int a_ofHeld)), (3, .inl (.int x3)), (4, .inl (.int x4))] [] w0 0 0) := by
    intro n
    induction n with
    | zero =>
      refine ?_
      · intros; omega
    | succ n ih =>
      have i_5 := ih
      intro x3 x4 l_x4 u_x4 hm
      show kh_L_unitsLeft_5 rt xt (ku_L_unitsLeft rt xt n) [(0, .inl (.ref 60)), (1, .inl (.int a_ofGood)), (2, .inl (.int a_ofHeld)), (3, .inl (.int x3)), (4, .inl (.int x4))] [] w0 0 0
      generalize ku_L_unitsLeft rt xt n = K at i_5 ⊢
      refine sf_iload rfl ?_
      refine sf_aload rfl ?_
      refine sf_geti hI0 rfl rfl (fun v1 lv1 uv1 ev1 => ?_)
      refine sf_f2_ge (fun h2 => ?_) (fun h2 => ?_)
      · refine sf_iload rfl ?_
        refine sf_ireturn rfl rfl ?_
        exact hR _ 
      · refine sf_aload rfl ?_
        refine sf_getr hI0 rfl rfl ?_
        refine sf_iload rfl ?_
        refine sf_iald hI0 rfl (by omega) (fun v3 lv3 uv3 ev3 => ?_)
        clear lv3 uv3
        clear ev3
        refine sf_iload rfl ?_
        refine sf_f2_eq (fun h4 => ?_) (fun h4 => ?_)
        · refine sf_aload rfl ?_
          refine sf_getr hI0 rfl rfl ?_
          refine sf_iload rfl ?_
          refine sf_zald hI0 rfl (by omega) (fun v5 lv5 uv5 ev5 => ?_)
          clear ev5
          refine sf_iload rfl ?_
          refine sf_f2_eq (fun h6 => ?_) (fun h6 => ?_)
          · refine sf_iload rfl ?_
            refine sf_aload rfl ?_
            refine sf_getr hI0 rfl rfl ?_
            refine sf_iload rfl ?_
            refine sf_iald hI0 rfl (by omega) (fun v7 lv7 uv7 ev7 => ?_)
            refine sf_aload rfl ?_
            refine sf_getr hI0 rfl rfl ?_
            refine sf_iload rfl ?_
            refine sf_iald hI0 rfl (by omega) (fun v8 lv8 uv8 ev8 => ?_)
            clear lv8 uv8
            clear ev8
            refine sf_i2 (fun v9 => ?_)
            refine sf_i2 (fun v10 => ?_)
            refine sf_istore (L' := [(0, .inl (.ref 60)), (1, .inl (.int a_ofGood)), (2, .inl (.int a_ofHeld)), (4, .inl (.int x4))]) rfl ?_
            refine sf_iinc (L' := [(3, .inl (.int v10)), (0, .inl (.ref 60)), (1, .inl (.int a_ofGood)), (2, .inl (.int a_ofHeld))]) sf_c1 rfl rfl (by omega) (fun v11 ev11 => ?_)
            refine sf_can (L' := [(0, .inl (.ref 60)), (1, .inl (.int a_ofGood)), (2, .inl (.int a_ofHeld)), (3, .inl (.int v10)), (4, .inl (.int v11))]) rfl ?_
            exact i_5 v10 v11 (by omega) (by omega) (by omega)
          · refine sf_iinc (L' := [(0, .inl (.ref 60)), (1, .inl (.int a_ofGood)), (2, .inl (.int a_ofHeld)), (3, .inl (.int x3))]) sf_c1 rfl rfl (by omega) (fun v12 ev12 => ?_)
            refine sf_can (L' := [(0, .inl (.ref 60)), (1, .inl (.int a_ofGood)), (2, .inl (.int a_ofHeld)), (3, .inl (.int x3)), (4, .inl (.int v12))]) rfl ?_
            exact i_5 x3 v12 (by omega) (by omega) (by omega)
        · refine sf_iinc (L' := [(0, .inl (.ref 60)), (1, .inl (.int a_ofGood)), (2, .inl (.int a_ofHeld)), (3, .inl (.int x3))]) sf_c1 rfl rfl (by omega) (fun v13 ev13 => ?_)
          refine sf_can (L' := [(0, .inl (.ref 60)), (1, .inl (.int a_ofGood)), (2, .inl (.int a_ofHeld)), (3, .inl (.int x3)), (4, .inl (.int v13))]) rfl ?_
          exact i_5 x3 v13 (by omega) (by omega) (by omega)
  have hl1 := hl 1000000000000
  have i_5 := hl1
  clear hl hl1
  refine sf_sp (L := [(0, .inl (.ref 60)), (1, .inl (.int a_ofGood)), (2, .inl (.int a_ofHeld))]) rfl rfl ?_
  generalize ku_L_unitsLeft rt xt 1000000000000 = K at i_5 ⊢
  refine sf_iconst sf_c0 (fun z14 ez14 => ?_)
  refine sf_istore (L' := [(0, .inl (.ref 60)), (1, .inl (.int a_ofGood)), (2, .inl (.int a_ofHeld))]) rfl ?_
  refine sf_iconst sf_c0 (fun z15 ez15 => ?_)
  refine sf_istore (L' := [(3, .inl (.int z14)), (0, .inl (.ref 60)), (1, .inl (.int a_ofGood)), (2, .inl (.int a_ofHeld))]) rfl ?_
  refine sf_can (L' := [(0, .inl (.ref 60)), (1, .inl (.int a_ofGood)), (2, .inl (.int a_ofHeld)), (3, .inl (.int z14)), (4, .inl (.int z15))]) rfl ?_
  exact i_5 z14 z15 (by omega) (by omega) (by omega)
