def sm_M_classOf : List Nat := []
set_option maxRecDepth 100000 in
set_option maxHeartbeats 4000000 in
theorem sc_M_classOf {w0 : wq_W} (hI0 : sf_I w0) {rt : Option wq_V → wq_W → Prop} {xt : Nat → wq_W → Prop} {a_good : Int32} (p0 : 0 ≤ a_good.toInt) (p1 : a_good.toInt ≤ 15) (hR : ∀ (r : Int32), (-1) ≤ r.toInt → r.toInt ≤ 23 → (r.toInt < (sf_f w0 71 1).toInt) → rt (some (.inl (.int r))) w0) : ks_M_classOf [.inl (.ref 71), .inl (.int a_good)] w0 rt xt := by
  have h00 := sf_hd hI0
  have hl : ∀ n : Nat, (∀ (x2 : Int32) (x3 : Int32), ((-1) ≤ x2.toInt) → (x2.toInt ≤ 23) → (0 ≤ x3.toInt) → (x3.toInt ≤ 24) → (x2.toInt < (sf_f w0 71 1).toInt) → (24 - x3.toInt < (n : Int)) → ku_M_classOf rt xt n 4 [(0, .inl (.ref 71)), (1, .inl (.int a_good)), (2, .inl (.int x2)), (3, .inl (.int x3))] [] w0 0 0) := by
    intro n
    induction n with
    | zero =>
      refine ?_
      · intros; omega
    | succ n ih =>
      have i_4 := ih
      intro x2 x3 l_x2 u_x2 l_x3 u_x3 f_0 hm
      show kh_M_classOf_4 rt xt (ku_M_classOf rt xt n) [(0, .inl (.ref 71)), (1, .inl (.int a_good)), (2, .inl (.int x2)), (3, .inl (.int x3))] [] w0 0 0
      generalize ku_M_classOf rt xt n = K at i_4 ⊢
      refine sf_iload rfl ?_
      refine sf_aload rfl ?_
      refine sf_geti hI0 rfl rfl (fun v1 lv1 uv1 ev1 => ?_)
      refine sf_f2_ge (fun h2 => ?_) (fun h2 => ?_)
      · refine sf_iload rfl ?_
        refine sf_ireturn rfl rfl ?_
        exact hR _ (by omega) (by omega) (by omega)
      · refine sf_aload rfl ?_
        refine sf_iload rfl ?_
        refine sf_iload rfl ?_
        refine sf_call3 rfl rfl rfl ?_
        refine sf_rv hI0 rfl ?_
        refine sc_M_fits hI0 (by omega) (by omega) (by omega) (by omega) (by omega) (fun v3 lv3 uv3 q4_0 => ?_)
        refine sf_f1_eq (fun h5 => ?_) (fun h5 => ?_)
        · refine sf_iinc (L' := [(0, .inl (.ref 71)), (1, .inl (.int a_good)), (2, .inl (.int x2))]) sf_c1 rfl rfl (by omega) (fun v6 ev6 => ?_)
          refine sf_can (L' := [(0, .inl (.ref 71)), (1, .inl (.int a_good)), (2, .inl (.int x2)), (3, .inl (.int v6))]) rfl ?_
          exact i_4 x2 v6 (by omega) (by omega) (by omega) (by omega) (by omega) (by omega)
        · refine sf_iload rfl ?_
          refine sf_f1_ge (fun h7 => ?_) (fun h7 => ?_)
          · refine sf_aload rfl ?_
            refine sf_iload rfl ?_
            refine sf_call2 rfl rfl rfl ?_
            refine sf_rv hI0 rfl ?_
            refine sc_M_depthOf hI0 (by omega) (by omega) (by omega) (fun v8 => ?_)
            refine sf_aload rfl ?_
            refine sf_iload rfl ?_
            refine sf_call2 rfl rfl rfl ?_
            refine sf_rv hI0 rfl ?_
            refine sc_M_depthOf hI0 (by omega) (by omega) (by omega) (fun v10 => ?_)
            refine sf_i2 (fun v12 => ?_)
            refine sf_istore (L' := [(0, .inl (.ref 71)), (1, .inl (.int a_good)), (2, .inl (.int x2)), (3, .inl (.int x3))]) rfl ?_
            refine sf_iload rfl ?_
            refine sf_f1_gt (fun h13 => ?_) (fun h13 => ?_)
            · refine sf_iload rfl ?_
              refine sf_istore (L' := [(4, .inl (.int v12)), (0, .inl (.ref 71)), (1, .inl (.int a_good)), (3, .inl (.int x3))]) rfl ?_
              refine sf_iinc (L' := [(2, .inl (.int x3)), (4, .inl (.int v12)), (0, .inl (.ref 71)), (1, .inl (.int a_good))]) sf_c1 rfl rfl (by omega) (fun v14 ev14 => ?_)
              refine sf_can (L' := [(0, .inl (.ref 71)), (1, .inl (.int a_good)), (2, .inl (.int x3)), (3, .inl (.int v14))]) rfl ?_
              exact i_4 x3 v14 (by omega) (by omega) (by omega) (by omega) (by omega) (by omega)
            · refine sf_iload rfl ?_
              refine sf_f1_eq (fun h15 => ?_) (fun h15 => ?_)
              · refine sf_aload rfl ?_
                refine sf_iload rfl ?_
                refine sf_iload rfl ?_
                refine sf_call3 rfl rfl rfl ?_
                refine sf_rv hI0 rfl ?_
                refine sc_M_shareOf hI0 (by omega) (by omega) (by omega) (by omega) (by omega) (fun v16 q17_0 => ?_)
                refine sf_aload rfl ?_
                refine sf_iload rfl ?_
                refine sf_iload rfl ?_
                refine sf_call3 rfl rfl rfl ?_
                refine sf_rv hI0 rfl ?_
                refine sc_M_shareOf hI0 (by omega) (by omega) (by omega) (by omega) (by omega) (fun v18 q19_0 => ?_)
                refine sf_f2_lt (fun h20 => ?_) (fun h20 => ?_)
                · refine sf_iload rfl ?_
                  refine sf_istore (L' := [(4, .inl (.int v12)), (0, .inl (.ref 71)), (1, .inl (.int a_good)), (3, .inl (.int x3))]) rfl ?_
                  refine sf_iinc (L' := [(2, .inl (.int x2)), (4, .inl (.int v12)), (0, .inl (.ref 71)), (1, .inl (.int a_good))]) sf_c1 rfl rfl (by omega) (fun v21 ev21 => ?_)
                  refine sf_can (L' := [(0, .inl (.ref 71)), (1, .inl (.int a_good)), (2, .inl (.int x2)), (3, .inl (.int v21))]) rfl ?_
                  exact i_4 x2 v21 (by omega) (by omega) (by omega) (by omega) (by omega) (by omega)
                · refine sf_iload rfl ?_
                  refine sf_istore (L' := [(4, .inl (.int v12)), (0, .inl (.ref 71)), (1, .inl (.int a_good)), (3, .inl (.int x3))]) rfl ?_
                  refine sf_iinc (L' := [(2, .inl (.int x3)), (4, .inl (.int v12)), (0, .inl (.ref 71)), (1, .inl (.int a_good))]) sf_c1 rfl rfl (by omega) (fun v22 ev22 => ?_)
                  refine sf_can (L' := [(0, .inl (.ref 71)), (1, .inl (.int a_good)), (2, .inl (.int x3)), (3, .inl (.int v22))]) rfl ?_
                  exact i_4 x3 v22 (by omega) (by omega) (by omega) (by omega) (by omega) (by omega)
              · refine sf_iload rfl ?_
                refine sf_istore (L' := [(4, .inl (.int v12)), (0, .inl (.ref 71)), (1, .inl (.int a_good)), (3, .inl (.int x3))]) rfl ?_
                refine sf_iinc (L' := [(2, .inl (.int x2)), (4, .inl (.int v12)), (0, .inl (.ref 71)), (1, .inl (.int a_good))]) sf_c1 rfl rfl (by omega) (fun v23 ev23 => ?_)
                refine sf_can (L' := [(0, .inl (.ref 71)), (1, .inl (.int a_good)), (2, .inl (.int x2)), (3, .inl (.int v23))]) rfl ?_
                exact i_4 x2 v23 (by omega) (by omega) (by omega) (by omega) (by omega) (by omega)
          · refine sf_iconst sf_c1 (fun z24 ez24 => ?_)
            refine sf_istore (L' := [(0, .inl (.ref 71)), (1, .inl (.int a_good)), (2, .inl (.int x2)), (3, .inl (.int x3))]) rfl ?_
            refine sf_iload rfl ?_
            refine sf_f1_gt (fun h25 => ?_) (fun h25 => absurd h25 (by omega))
            refine sf_iload rfl ?_
            refine sf_istore (L' := [(4, .inl (.int z24)), (0, .inl (.ref 71)), (1, .inl (.int a_good)), (3, .inl (.int x3))]) rfl ?_
            refine sf_iinc (L' := [(2, .inl (.int x3)), (4, .inl (.int z24)), (0, .inl (.ref 71)), (1, .inl (.int a_good))]) sf_c1 rfl rfl (by omega) (fun v26 ev26 => ?_)
            refine sf_can (L' := [(0, .inl (.ref 71)), (1, .inl (.int a_good)), (2, .inl (.int x3)), (3, .inl (.int v26))]) rfl ?_
            exact i_4 x3 v26 (by omega) (by omega) (by omega) (by omega) (by omega) (by omega)
  have hl1 := hl 1000000000000
  have i_4 := hl1
  clear hl hl1
  refine sf_sp (L := [(0, .inl (.ref 71)), (1, .inl (.int a_good))]) rfl rfl ?_
  generalize ku_M_classOf rt xt 1000000000000 = K at i_4 ⊢
  refine sf_iconst sf_cm1 (fun z27 ez27 => ?_)
  refine sf_istore (L' := [(0, .inl (.ref 71)), (1, .inl (.int a_good))]) rfl ?_
  refine sf_iconst sf_c0 (fun z28 ez28 => ?_)
  refine sf_istore (L' := [(2, .inl (.int z27)), (0, .inl (.ref 71)), (1, .inl (.int a_good))]) rfl ?_
  refine sf_can (L' := [(0, .inl (.ref 71)), (1, .inl (.int a_good)), (2, .inl (.int z27)), (3, .inl (.int z28))]) rfl ?_
  exact i_4 z27 z28 (by omega) (by omega) (by omega) (by omega) (by omega) (by omega)
def sm_M_classOf_K : List Nat := []
set_option maxRecDepth 100000 in
set_option maxHeartbeats 4000000 in
theorem sc_M_classOf_K {w0 : wq_W} (hI0 : sf_I w0) {rt : Option wq_V → wq_W → Prop} {xt : Nat → wq_W → Prop} {a_good : Int32} (p0 : 0 ≤ a_good.toInt) (p1 : a_good.toInt ≤ 15) (p2 : sf_J (sf_a w0 3) (sf_a w0 72) (sf_f w0 71 1).toInt) (hR : ∀ (r : Int32), (-1) ≤ r.toInt → r.toInt ≤ 23 → (r.toInt < (sf_f w0 71 1).toInt) → (r.toInt = sj_B (sp_fi (sf_a w0 72) (sf_a w0 75) (sf_a w0 76) (sf_a w0 77) (sf_a w0 78) (sp_aa (sf_a w0 93) a_good.toInt.toNat) (sf_f w0 71 5).toInt.toNat) (sp_d (sf_a w0 3)) (sp_sh (sf_a w0 72) (sf_a w0 75) (sf_a w0 76) (sf_a w0 77) (sp_aa (sf_a w0 93) a_good.toInt.toNat) (sf_f w0 71 5).toInt.toNat) (sf_f w0 71 1).toInt.toNat) → rt (some (.inl (.int r))) w0) : ks_M_classOf [.inl (.ref 71), .inl (.int a_good)] w0 rt xt := by
  have h00 := sf_hd hI0
  have hl : ∀ n : Nat, (∀ (x2 : Int32) (x3 : Int32), ((-1) ≤ x2.toInt) → (x2.toInt ≤ 23) → (0 ≤ x3.toInt) → (x3.toInt ≤ 24) → (x2.toInt < (sf_f w0 71 1).toInt) → (x2.toInt = sj_B (sp_fi (sf_a w0 72) (sf_a w0 75) (sf_a w0 76) (sf_a w0 77) (sf_a w0 78) (sp_aa (sf_a w0 93) a_good.toInt.toNat) (sf_f w0 71 5).toInt.toNat) (sp_d (sf_a w0 3)) (sp_sh (sf_a w0 72) (sf_a w0 75) (sf_a w0 76) (sf_a w0 77) (sp_aa (sf_a w0 93) a_good.toInt.toNat) (sf_f w0 71 5).toInt.toNat) x3.toInt.toNat) → (x3.toInt ≤ (sf_f w0 71 1).toInt) → (x2.toInt < x3.toInt) → (24 - x3.toInt < (n : Int)) → ku_M_classOf rt xt n 4 [(0, .inl (.ref 71)), (1, .inl (.int a_good)), (2, .inl (.int x2)), (3, .inl (.int x3))] [] w0 0 0) := by
    intro n
    induction n with
    | zero =>
      refine ?_
      · intros; omega
    | succ n ih =>
      have i_4 := ih
      intro x2 x3 l_x2 u_x2 l_x3 u_x3 f_0 f_1 f_2 f_3 hm
      show kh_M_classOf_4 rt xt (ku_M_classOf rt xt n) [(0, .inl (.ref 71)), (1, .inl (.int a_good)), (2, .inl (.int x2)), (3, .inl (.int x3))] [] w0 0 0
      generalize ku_M_classOf rt xt n = K at i_4 ⊢
      refine sf_iload rfl ?_
      refine sf_aload rfl ?_
      refine sf_geti hI0 rfl rfl (fun v1 lv1 uv1 ev1 => ?_)
      refine sf_f2_ge (fun h2 => ?_) (fun h2 => ?_)
      · refine sf_iload rfl ?_
        refine sf_ireturn rfl rfl ?_
        exact hR _ (by omega) (by omega) (by omega) (by rw [f_1]; congr 1; omega)
      · refine sf_aload rfl ?_
        refine sf_iload rfl ?_
        refine sf_iload rfl ?_
        refine sf_call3 rfl rfl rfl ?_
        refine sf_rv hI0 rfl ?_
        refine sc_M_fits hI0 (by omega) (by omega) (by omega) (by omega) (by omega) (fun v3 lv3 uv3 q4_0 => ?_)
        refine sf_f1_eq (fun h5 => ?_) (fun h5 => ?_)
        · refine sf_iinc (L' := [(0, .inl (.ref 71)), (1, .inl (.int a_good)), (2, .inl (.int x2))]) sf_c1 rfl rfl (by omega) (fun v6 ev6 => ?_)
          refine sf_can (L' := [(0, .inl (.ref 71)), (1, .inl (.int a_good)), (2, .inl (.int x2)), (3, .inl (.int v6))]) rfl ?_
          exact i_4 x2 v6 (by omega) (by omega) (by omega) (by omega) (by omega) (by exact (sj_BF (n := x3.toInt.toNat) (b := x2.toInt) (by omega) f_1 (by omega)).symm) (by omega) (by omega) (by omega)
        · refine sf_iload rfl ?_
          refine sf_f1_ge (fun h7 => ?_) (fun h7 => ?_)
          · refine sf_aload rfl ?_
            refine sf_iload rfl ?_
            refine sf_call2 rfl rfl rfl ?_
            refine sf_rv hI0 rfl ?_
            refine sc_M_depthOf_J hI0 (by omega) (by omega) (by omega) (by omega) (by exact p2) (fun v8 lv8 uv8 q9_0 q9_1 => ?_)
            have gd_v8 : (sp_d (sf_a w0 3)) x3.toInt.toNat = v8.toInt := q9_0.symm
            refine sf_aload rfl ?_
            refine sf_iload rfl ?_
            refine sf_call2 rfl rfl rfl ?_
            refine sf_rv hI0 rfl ?_
            refine sc_M_depthOf_J hI0 (by omega) (by omega) (by omega) (by omega) (by exact p2) (fun v10 lv10 uv10 q11_0 q11_1 => ?_)
            have gd_v10 : (sp_d (sf_a w0 3)) x2.toInt.toNat = v10.toInt := q11_0.symm
            refine sf_isub (by omega) (fun v12 ev12 => ?_)
            refine sf_istore (L' := [(0, .inl (.ref 71)), (1, .inl (.int a_good)), (2, .inl (.int x2)), (3, .inl (.int x3))]) rfl ?_
            refine sf_iload rfl ?_
            refine sf_f1_gt (fun h13 => ?_) (fun h13 => ?_)
            · refine sf_iload rfl ?_
              refine sf_istore (L' := [(4, .inl (.int v12)), (0, .inl (.ref 71)), (1, .inl (.int a_good)), (3, .inl (.int x3))]) rfl ?_
              refine sf_iinc (L' := [(2, .inl (.int x3)), (4, .inl (.int v12)), (0, .inl (.ref 71)), (1, .inl (.int a_good))]) sf_c1 rfl rfl (by omega) (fun v14 ev14 => ?_)
              refine sf_can (L' := [(0, .inl (.ref 71)), (1, .inl (.int a_good)), (2, .inl (.int x3)), (3, .inl (.int v14))]) rfl ?_
              exact i_4 x3 v14 (by omega) (by omega) (by omega) (by omega) (by omega) (by exact (show x3.toInt = ((x3.toInt.toNat : Nat) : Int) by omega).trans (sj_BT (n := x3.toInt.toNat) (b := x2.toInt) (by omega) f_1 (by omega)).symm) (by omega) (by omega) (by omega)
            · refine sf_iload rfl ?_
              refine sf_f1_eq (fun h15 => ?_) (fun h15 => ?_)
              · refine sf_aload rfl ?_
                refine sf_iload rfl ?_
                refine sf_iload rfl ?_
                refine sf_call3 rfl rfl rfl ?_
                refine sf_rv hI0 rfl ?_
                refine sc_M_shareOf hI0 (by omega) (by omega) (by omega) (by omega) (by omega) (fun v16 q17_0 => ?_)
                refine sf_aload rfl ?_
                refine sf_iload rfl ?_
                refine sf_iload rfl ?_
                refine sf_call3 rfl rfl rfl ?_
                refine sf_rv hI0 rfl ?_
                refine sc_M_shareOf hI0 (by omega) (by omega) (by omega) (by omega) (by omega) (fun v18 q19_0 => ?_)
                refine sf_f2_lt (fun h20 => ?_) (fun h20 => ?_)
                · refine sf_iload rfl ?_
                  refine sf_istore (L' := [(4, .inl (.int v12)), (0, .inl (.ref 71)), (1, .inl (.int a_good)), (3, .inl (.int x3))]) rfl ?_
                  refine sf_iinc (L' := [(2, .inl (.int x2)), (4, .inl (.int v12)), (0, .inl (.ref 71)), (1, .inl (.int a_good))]) sf_c1 rfl rfl (by omega) (fun v21 ev21 => ?_)
                  refine sf_can (L' := [(0, .inl (.ref 71)), (1, .inl (.int a_good)), (2, .inl (.int x2)), (3, .inl (.int v21))]) rfl ?_
                  exact i_4 x2 v21 (by omega) (by omega) (by omega) (by omega) (by omega) (by exact (sj_BF (n := x3.toInt.toNat) (b := x2.toInt) (by omega) f_1 (by omega)).symm) (by omega) (by omega) (by omega)
                · refine sf_iload rfl ?_
                  refine sf_istore (L' := [(4, .inl (.int v12)), (0, .inl (.ref 71)), (1, .inl (.int a_good)), (3, .inl (.int x3))]) rfl ?_
                  refine sf_iinc (L' := [(2, .inl (.int x3)), (4, .inl (.int v12)), (0, .inl (.ref 71)), (1, .inl (.int a_good))]) sf_c1 rfl rfl (by omega) (fun v22 ev22 => ?_)
                  refine sf_can (L' := [(0, .inl (.ref 71)), (1, .inl (.int a_good)), (2, .inl (.int x3)), (3, .inl (.int v22))]) rfl ?_
                  exact i_4 x3 v22 (by omega) (by omega) (by omega) (by omega) (by omega) (by exact (show x3.toInt = ((x3.toInt.toNat : Nat) : Int) by omega).trans (sj_BT (n := x3.toInt.toNat) (b := x2.toInt) (by omega) f_1 (by omega)).symm) (by omega) (by omega) (by omega)
              · refine sf_iload rfl ?_
                refine sf_istore (L' := [(4, .inl (.int v12)), (0, .inl (.ref 71)), (1, .inl (.int a_good)), (3, .inl (.int x3))]) rfl ?_
                refine sf_iinc (L' := [(2, .inl (.int x2)), (4, .inl (.int v12)), (0, .inl (.ref 71)), (1, .inl (.int a_good))]) sf_c1 rfl rfl (by omega) (fun v23 ev23 => ?_)
                refine sf_can (L' := [(0, .inl (.ref 71)), (1, .inl (.int a_good)), (2, .inl (.int x2)), (3, .inl (.int v23))]) rfl ?_
                exact i_4 x2 v23 (by omega) (by omega) (by omega) (by omega) (by omega) (by exact (sj_BF (n := x3.toInt.toNat) (b := x2.toInt) (by omega) f_1 (by omega)).symm) (by omega) (by omega) (by omega)
          · refine sf_iconst sf_c1 (fun z24 ez24 => ?_)
            refine sf_istore (L' := [(0, .inl (.ref 71)), (1, .inl (.int a_good)), (2, .inl (.int x2)), (3, .inl (.int x3))]) rfl ?_
            refine sf_iload rfl ?_
            refine sf_f1_gt (fun h25 => ?_) (fun h25 => absurd h25 (by omega))
            refine sf_iload rfl ?_
            refine sf_istore (L' := [(4, .inl (.int z24)), (0, .inl (.ref 71)), (1, .inl (.int a_good)), (3, .inl (.int x3))]) rfl ?_
            refine sf_iinc (L' := [(2, .inl (.int x3)), (4, .inl (.int z24)), (0, .inl (.ref 71)), (1, .inl (.int a_good))]) sf_c1 rfl rfl (by omega) (fun v26 ev26 => ?_)
            refine sf_can (L' := [(0, .inl (.ref 71)), (1, .inl (.int a_good)), (2, .inl (.int x3)), (3, .inl (.int v26))]) rfl ?_
            exact i_4 x3 v26 (by omega) (by omega) (by omega) (by omega) (by omega) (by exact (show x3.toInt = ((x3.toInt.toNat : Nat) : Int) by omega).trans (sj_BT (n := x3.toInt.toNat) (b := x2.toInt) (by omega) f_1 (by omega)).symm) (by omega) (by omega) (by omega)
  have hl1 := hl 1000000000000
  have i_4 := hl1
  clear hl hl1
  refine sf_sp (L := [(0, .inl (.ref 71)), (1, .inl (.int a_good))]) rfl rfl ?_
  generalize ku_M_classOf rt xt 1000000000000 = K at i_4 ⊢
  refine sf_iconst sf_cm1 (fun z27 ez27 => ?_)
  refine sf_istore (L' := [(0, .inl (.ref 71)), (1, .inl (.int a_good))]) rfl ?_
  refine sf_iconst sf_c0 (fun z28 ez28 => ?_)
  refine sf_istore (L' := [(2, .inl (.int z27)), (0, .inl (.ref 71)), (1, .inl (.int a_good))]) rfl ?_
  refine sf_can (L' := [(0, .inl (.ref 71)), (1, .inl (.int a_good)), (2, .inl (.int z27)), (3, .inl (.int z28))]) rfl ?_
  exact i_4 z27 z28 (by omega) (by omega) (by omega) (by omega) (by omega) (by rw [sj_Bz (by omega)]; omega) (by omega) (by omega) (by omega)
def sm_M_lastRate : List Nat := []
set_option maxRecDepth 100000 in
set_option maxHeartbeats 4000000 in
theorem sc_M_lastRate {w0 : wq_W} (hI0 : sf_I w0) {rt : Option wq_V → wq_W → Prop} {xt : Nat → wq_W → Prop} {a_h : Int32} {a_land : Int32} {a_when : Int32}  (hR : ∀ (r : Int32), (-1) ≤ r.toInt → r.toInt ≤ 39 → (r.toInt = sr_l (sr_m (sf_a w0 79) (sf_a w0 80) (sf_a w0 84) (sf_a w0 85) a_h.toInt a_land.toInt a_when.toInt) (sf_f w0 71 10).toInt.toNat) → rt (some (.inl (.int r))) w0) : ks_M_lastRate [.inl (.ref 71), .inl (.int a_h), .inl (.int a_land), .inl (.int a_when)] w0 rt xt := by
  have b10 := (sf_fb hI0 (p := 71) (ci := 9) (j := 10) rfl rfl).1
  have hl : ∀ n : Nat, (∀ (x4 : Int32) (x5 : Int32), ((-1) ≤ x4.toInt) → (x4.toInt ≤ 39) → (0 ≤ x5.toInt) → (x5.toInt ≤ 40) → (x4.toInt = sr_l (sr_m (sf_a w0 79) (sf_a w0 80) (sf_a w0 84) (sf_a w0 85) a_h.toInt a_land.toInt a_when.toInt) x5.toInt.toNat) → (x5.toInt ≤ (sf_f w0 71 10).toInt) → (40 - x5.toInt < (n : Int)) → ku_M_lastRate rt xt n 6 [(0, .inl (.ref 71)), (1, .inl (.int a_h)), (2, .inl (.int a_land)), (3, .inl (.int a_when)), (4, .inl (.int x4)), (5, .inl (.int x5))] [] w0 0 0) := by
    intro n
    induction n with
    | zero =>
      refine ?_
      · intros; omega
    | succ n ih =>
      have i_6 := ih
      intro x4 x5 l_x4 u_x4 l_x5 u_x5 f_0 f_1 hm
      show kh_M_lastRate_6 rt xt (ku_M_lastRate rt xt n) [(0, .inl (.ref 71)), (1, .inl (.int a_h)), (2, .inl (.int a_land)), (3, .inl (.int a_when)), (4, .inl (.int x4)), (5, .inl (.int x5))] [] w0 0 0
      generalize ku_M_lastRate rt xt n = K at i_6 ⊢
      refine sf_iload rfl ?_
      refine sf_aload rfl ?_
      refine sf_geti hI0 rfl rfl (fun v1 lv1 uv1 ev1 => ?_)
      refine sf_f2_ge (fun h2 => ?_) (fun h2 => ?_)
      · refine sf_iload rfl ?_
        refine sf_ireturn rfl rfl ?_
        exact hR _ (by omega) (by omega) (by rw [f_0]; congr 1; omega)
      · refine sf_aload rfl ?_
        refine sf_getr hI0 rfl rfl ?_
        refine sf_iload rfl ?_
        refine sf_iald hI0 rfl (by omega) (fun v3 lv3 uv3 ev3 => ?_)
        clear lv3 uv3
        refine sf_iload rfl ?_
        refine sf_f2_eq (fun h4 => ?_) (fun h4 => ?_)
        · refine sf_aload rfl ?_
          refine sf_getr hI0 rfl rfl ?_
          refine sf_iload rfl ?_
          refine sf_iald hI0 rfl (by omega) (fun v5 lv5 uv5 ev5 => ?_)
          clear lv5 uv5
          refine sf_iload rfl ?_
          refine sf_f2_eq (fun h6 => ?_) (fun h6 => ?_)
          · refine sf_iload rfl ?_
            refine sf_aload rfl ?_
            refine sf_getr hI0 rfl rfl ?_
            refine sf_iload rfl ?_
            refine sf_iald hI0 rfl (by omega) (fun v7 lv7 uv7 ev7 => ?_)
            clear lv7 uv7
            refine sf_f2_lt (fun h8 => ?_) (fun h8 => ?_)
            · refine sf_iload rfl ?_
              refine sf_istore (L' := [(0, .inl (.ref 71)), (1, .inl (.int a_h)), (2, .inl (.int a_land)), (3, .inl (.int a_when)), (5, .inl (.int x5))]) rfl ?_
              refine sf_iinc (L' := [(4, .inl (.int x4)), (0, .inl (.ref 71)), (1, .inl (.int a_h)), (2, .inl (.int a_land)), (3, .inl (.int a_when))]) sf_c1 rfl rfl (by omega) (fun v9 ev9 => ?_)
              refine sf_can (L' := [(0, .inl (.ref 71)), (1, .inl (.int a_h)), (2, .inl (.int a_land)), (3, .inl (.int a_when)), (4, .inl (.int x4)), (5, .inl (.int v9))]) rfl ?_
              exact i_6 x4 v9 (by omega) (by omega) (by omega) (by omega) (by first | (refine Eq.trans ?_ (sr_zero (by omega)).symm; omega) | (refine Eq.trans ?_ (sr_stepT (n := x5.toInt.toNat) (by omega) (sr_mt (by omega))).symm; omega) | (refine Eq.trans ?_ (sr_stepF (n := x5.toInt.toNat) (by omega) (sr_mf (by omega))).symm; omega)) (by omega) (by omega)
            · refine sf_iload rfl ?_
              refine sf_aload rfl ?_
              refine sf_getr hI0 rfl rfl ?_
              refine sf_iload rfl ?_
              refine sf_iald hI0 rfl (by omega) (fun v10 lv10 uv10 ev10 => ?_)
              clear lv10 uv10
              refine sf_f2_gt (fun h11 => ?_) (fun h11 => ?_)
              · refine sf_iload rfl ?_
                refine sf_istore (L' := [(0, .inl (.ref 71)), (1, .inl (.int a_h)), (2, .inl (.int a_land)), (3, .inl (.int a_when)), (5, .inl (.int x5))]) rfl ?_
                refine sf_iinc (L' := [(4, .inl (.int x4)), (0, .inl (.ref 71)), (1, .inl (.int a_h)), (2, .inl (.int a_land)), (3, .inl (.int a_when))]) sf_c1 rfl rfl (by omega) (fun v12 ev12 => ?_)
                refine sf_can (L' := [(0, .inl (.ref 71)), (1, .inl (.int a_h)), (2, .inl (.int a_land)), (3, .inl (.int a_when)), (4, .inl (.int x4)), (5, .inl (.int v12))]) rfl ?_
                exact i_6 x4 v12 (by omega) (by omega) (by omega) (by omega) (by first | (refine Eq.trans ?_ (sr_zero (by omega)).symm; omega) | (refine Eq.trans ?_ (sr_stepT (n := x5.toInt.toNat) (by omega) (sr_mt (by omega))).symm; omega) | (refine Eq.trans ?_ (sr_stepF (n := x5.toInt.toNat) (by omega) (sr_mf (by omega))).symm; omega)) (by omega) (by omega)
              · refine sf_iload rfl ?_
                refine sf_istore (L' := [(0, .inl (.ref 71)), (1, .inl (.int a_h)), (2, .inl (.int a_land)), (3, .inl (.int a_when)), (5, .inl (.int x5))]) rfl ?_
                refine sf_iinc (L' := [(4, .inl (.int x5)), (0, .inl (.ref 71)), (1, .inl (.int a_h)), (2, .inl (.int a_land)), (3, .inl (.int a_when))]) sf_c1 rfl rfl (by omega) (fun v13 ev13 => ?_)
                refine sf_can (L' := [(0, .inl (.ref 71)), (1, .inl (.int a_h)), (2, .inl (.int a_land)), (3, .inl (.int a_when)), (4, .inl (.int x5)), (5, .inl (.int v13))]) rfl ?_
                exact i_6 x5 v13 (by omega) (by omega) (by omega) (by omega) (by first | (refine Eq.trans ?_ (sr_zero (by omega)).symm; omega) | (refine Eq.trans ?_ (sr_stepT (n := x5.toInt.toNat) (by omega) (sr_mt (by omega))).symm; omega) | (refine Eq.trans ?_ (sr_stepF (n := x5.toInt.toNat) (by omega) (sr_mf (by omega))).symm; omega)) (by omega) (by omega)
          · refine sf_iload rfl ?_
            refine sf_istore (L' := [(0, .inl (.ref 71)), (1, .inl (.int a_h)), (2, .inl (.int a_land)), (3, .inl (.int a_when)), (5, .inl (.int x5))]) rfl ?_
            refine sf_iinc (L' := [(4, .inl (.int x4)), (0, .inl (.ref 71)), (1, .inl (.int a_h)), (2, .inl (.int a_land)), (3, .inl (.int a_when))]) sf_c1 rfl rfl (by omega) (fun v14 ev14 => ?_)
            refine sf_can (L' := [(0, .inl (.ref 71)), (1, .inl (.int a_h)), (2, .inl (.int a_land)), (3, .inl (.int a_when)), (4, .inl (.int x4)), (5, .inl (.int v14))]) rfl ?_
            exact i_6 x4 v14 (by omega) (by omega) (by omega) (by omega) (by first | (refine Eq.trans ?_ (sr_zero (by omega)).symm; omega) | (refine Eq.trans ?_ (sr_stepT (n := x5.toInt.toNat) (by omega) (sr_mt (by omega))).symm; omega) | (refine Eq.trans ?_ (sr_stepF (n := x5.toInt.toNat) (by omega) (sr_mf (by omega))).symm; omega)) (by omega) (by omega)
        · refine sf_iload rfl ?_
          refine sf_istore (L' := [(0, .inl (.ref 71)), (1, .inl (.int a_h)), (2, .inl (.int a_land)), (3, .inl (.int a_when)), (5, .inl (.int x5))]) rfl ?_
          refine sf_iinc (L' := [(4, .inl (.int x4)), (0, .inl (.ref 71)), (1, .inl (.int a_h)), (2, .inl (.int a_land)), (3, .inl (.int a_when))]) sf_c1 rfl rfl (by omega) (fun v15 ev15 => ?_)
          refine sf_can (L' := [(0, .inl (.ref 71)), (1, .inl (.int a_h)), (2, .inl (.int a_land)), (3, .inl (.int a_when)), (4, .inl (.int x4)), (5, .inl (.int v15))]) rfl ?_
          exact i_6 x4 v15 (by omega) (by omega) (by omega) (by omega) (by first | (refine Eq.trans ?_ (sr_zero (by omega)).symm; omega) | (refine Eq.trans ?_ (sr_stepT (n := x5.toInt.toNat) (by omega) (sr_mt (by omega))).symm; omega) | (refine Eq.trans ?_ (sr_stepF (n := x5.toInt.toNat) (by omega) (sr_mf (by omega))).symm; omega)) (by omega) (by omega)
  have hl1 := hl 1000000000000
  have i_6 := hl1
  clear hl hl1
  refine sf_sp (L := [(0, .inl (.ref 71)), (1, .inl (.int a_h)), (2, .inl (.int a_land)), (3, .inl (.int a_when))]) rfl rfl ?_
  generalize ku_M_lastRate rt xt 1000000000000 = K at i_6 ⊢
  refine sf_iconst sf_cm1 (fun z16 ez16 => ?_)
  refine sf_istore (L' := [(0, .inl (.ref 71)), (1, .inl (.int a_h)), (2, .inl (.int a_land)), (3, .inl (.int a_when))]) rfl ?_
  refine sf_iconst sf_c0 (fun z17 ez17 => ?_)
  refine sf_istore (L' := [(4, .inl (.int z16)), (0, .inl (.ref 71)), (1, .inl (.int a_h)), (2, .inl (.int a_land)), (3, .inl (.int a_when))]) rfl ?_
  refine sf_can (L' := [(0, .inl (.ref 71)), (1, .inl (.int a_h)), (2, .inl (.int a_land)), (3, .inl (.int a_when)), (4, .inl (.int z16)), (5, .inl (.int z17))]) rfl ?_
  exact i_6 z16 z17 (by omega) (by omega) (by omega) (by omega) (by first | (refine Eq.trans ?_ (sr_zero (by omega)).symm; omega) | (refine Eq.trans ?_ (sr_stepT (n := x5.toInt.toNat) (by omega) (sr_mt (by omega))).symm; omega) | (refine Eq.trans ?_ (sr_stepF (n := x5.toInt.toNat) (by omega) (sr_mf (by omega))).symm; omega)) (by omega) (by omega)
def sm_M_rateOf : List Nat := []
set_option maxRecDepth 100000 in
set_option maxHeartbeats 4000000 in
theorem sc_M_rateOf {w0 : wq_W} (hI0 : sf_I w0) {rt : Option wq_V → wq_W → Prop} {xt : Nat → wq_W → Prop} {a_h : Int32} {a_land : Int32} {a_when : Int32} (p0 : 0 ≤ a_h.toInt) (p1 : a_h.toInt ≤ 23) (p2 : 0 < (sf_f w0 71 1).toInt) (hR : ∀ (r : Int32), (-1) ≤ r.toInt → r.toInt ≤ 39 → (r.toInt = sr_up (sf_a w0 72) (sr_G (sf_a w0 79) (sf_a w0 80) (sf_a w0 84) (sf_a w0 85) a_land.toInt a_when.toInt (sf_f w0 71 10).toInt.toNat) (a_h.toInt + 1).toNat a_h.toInt) → rt (some (.inl (.int r))) w0) : ks_M_rateOf [.inl (.ref 71), .inl (.int a_h), .inl (.int a_land), .inl (.int a_when)] w0 rt xt := by
  have hdec : ∀ i : Nat, i < 24 → (sf_a w0 72 i).toInt < (i : Int) := fun i hi => by
    by_cases h0 : i = 0
    · subst h0; exact hI0.2.1.2.1 p2
    · exact hI0.2.1.1 i hi h0
  have hl : ∀ n : Nat, (∀ (x4 : Int32) (x5 : Int32), ((-1) ≤ x4.toInt) → (x4.toInt ≤ 39) → ((-1) ≤ x5.toInt) → (x5.toInt ≤ 23) → ((0 ≤ x4.toInt ∧ x4.toInt = sr_up (sf_a w0 72) (sr_G (sf_a w0 79) (sf_a w0 80) (sf_a w0 84) (sf_a w0 85) a_land.toInt a_when.toInt (sf_f w0 71 10).toInt.toNat) (a_h.toInt + 1).toNat a_h.toInt) ∨ (x4.toInt = -1 ∧ sr_up (sf_a w0 72) (sr_G (sf_a w0 79) (sf_a w0 80) (sf_a w0 84) (sf_a w0 85) a_land.toInt a_when.toInt (sf_f w0 71 10).toInt.toNat) (x5.toInt + 1).toNat x5.toInt = sr_up (sf_a w0 72) (sr_G (sf_a w0 79) (sf_a w0 80) (sf_a w0 84) (sf_a w0 85) a_land.toInt a_when.toInt (sf_f w0 71 10).toInt.toNat) (a_h.toInt + 1).toNat a_h.toInt)) → (x5.toInt + 1 < (n : Int)) → ku_M_rateOf rt xt n 6 [(0, .inl (.ref 71)), (2, .inl (.int a_land)), (3, .inl (.int a_when)), (4, .inl (.int x4)), (5, .inl (.int x5))] [] w0 0 0) := by
    intro n
    induction n with
    | zero =>
      refine ?_
      · intros; omega
    | succ n ih =>
      have i_6 := ih
      intro x4 x5 l_x4 u_x4 l_x5 u_x5 f_0 hm
      show kh_M_rateOf_6 rt xt (ku_M_rateOf rt xt n) [(0, .inl (.ref 71)), (2, .inl (.int a_land)), (3, .inl (.int a_when)), (4, .inl (.int x4)), (5, .inl (.int x5))] [] w0 0 0
      generalize ku_M_rateOf rt xt n = K at i_6 ⊢
      refine sf_iload rfl ?_
      refine sf_f1_lt (fun h1 => ?_) (fun h1 => ?_)
      · refine sf_iload rfl ?_
        refine sf_ireturn rfl rfl ?_
        exact hR _ (by omega) (by omega) (by rcases f_0 with ⟨f1, f2⟩ | ⟨f1, f2⟩; (exact f2); (rw [← f2, sr_upN (by omega)]; exact f1))
      · refine sf_iload rfl ?_
        refine sf_f1_ge (fun h2 => ?_) (fun h2 => ?_)
        · refine sf_iload rfl ?_
          refine sf_ireturn rfl rfl ?_
          exact hR _ (by omega) (by omega) (by rcases f_0 with ⟨f1, f2⟩ | ⟨f1, f2⟩; (exact f2); (rw [← f2, sr_upN (by omega)]; exact f1))
        · refine sf_aload rfl ?_
          refine sf_iload rfl ?_
          refine sf_iload rfl ?_
          refine sf_iload rfl ?_
          refine sf_call4 rfl rfl rfl ?_
          refine sf_rv hI0 rfl ?_
          refine sc_M_lastRate hI0  (fun v3 lv3 uv3 q4_0 => ?_)
          have QA := q4_0
          refine sf_istore (L' := [(0, .inl (.ref 71)), (2, .inl (.int a_land)), (3, .inl (.int a_when)), (5, .inl (.int x5))]) rfl ?_
          refine sf_iload rfl ?_
          refine sf_f1_ge (fun h5 => ?_) (fun h5 => ?_)
          · refine sf_iload rfl ?_
            refine sf_istore (L' := [(0, .inl (.ref 71)), (2, .inl (.int a_land)), (3, .inl (.int a_when)), (5, .inl (.int x5))]) rfl ?_
            refine sf_aload rfl ?_
            refine sf_getr hI0 rfl rfl ?_
            refine sf_iload rfl ?_
            refine sf_iald hI0 rfl (by omega) (fun v6 lv6 uv6 ev6 => ?_)
            have r1 := sf_R1p hI0 (by omega) (i := x5) (by omega)
            have ep := ev6
            refine sf_istore (L' := [(4, .inl (.int v3)), (0, .inl (.ref 71)), (2, .inl (.int a_land)), (3, .inl (.int a_when))]) rfl ?_
            refine sf_can (L' := [(0, .inl (.ref 71)), (2, .inl (.int a_land)), (3, .inl (.int a_when)), (4, .inl (.int v3)), (5, .inl (.int v6))]) rfl ?_
            exact i_6 v3 v6 (by omega) (by omega) (by omega) (by omega) (by have fr := (f_0.resolve_left (by omega)).2; (have hG := sr_gv1 (k := x5.toInt) (by omega) QA (by omega); refine Or.inl ⟨by omega, ?_⟩; rw [← fr, sr_upH (f0 := x5.toInt.toNat) (by omega) (by omega) (by rw [hG]; omega), hG])) (by omega)
          · refine sf_aload rfl ?_
            refine sf_iload rfl ?_
            refine sf_iconst sf_cm1 (fun z7 ez7 => ?_)
            refine sf_iload rfl ?_
            refine sf_call4 rfl rfl rfl ?_
            refine sf_rv hI0 rfl ?_
            refine sc_M_lastRate hI0  (fun v8 lv8 uv8 q9_0 => ?_)
            rw [show z7.toInt = -1 by omega] at q9_0
            have QB := QA
            have QA := q9_0
            refine sf_istore (L' := [(0, .inl (.ref 71)), (2, .inl (.int a_land)), (3, .inl (.int a_when)), (5, .inl (.int x5))]) rfl ?_
            refine sf_aload rfl ?_
            refine sf_getr hI0 rfl rfl ?_
            refine sf_iload rfl ?_
            refine sf_iald hI0 rfl (by omega) (fun v10 lv10 uv10 ev10 => ?_)
            have r1 := sf_R1p hI0 (by omega) (i := x5) (by omega)
            have ep := ev10
            refine sf_istore (L' := [(4, .inl (.int v8)), (0, .inl (.ref 71)), (2, .inl (.int a_land)), (3, .inl (.int a_when))]) rfl ?_
            refine sf_can (L' := [(0, .inl (.ref 71)), (2, .inl (.int a_land)), (3, .inl (.int a_when)), (4, .inl (.int v8)), (5, .inl (.int v10))]) rfl ?_
            exact i_6 v8 v10 (by omega) (by omega) (by omega) (by omega) (by have fr := (f_0.resolve_left (by omega)).2; by_cases hz : 0 ≤ v8.toInt; (have hG := (sr_gv (k := x5.toInt) (by omega) QB QA).trans (sr_gS (by omega)); refine Or.inl ⟨by omega, ?_⟩; rw [← fr, sr_upH (f0 := x5.toInt.toNat) (by omega) (by omega) (by rw [hG]; omega), hG]); (have hG := (sr_gv (k := x5.toInt) (by omega) QB QA).trans (sr_gS (by omega)); refine Or.inr ⟨by omega, ?_⟩; rw [← fr, sr_upS (k := x5.toInt) (f0 := x5.toInt.toNat) (by omega) (by omega) (by rw [hG]; omega), ← ep]; exact sr_upF hdec _ _ _ (by omega) (by omega) (by omega))) (by omega)
  have hl1 := hl 1000000000000
  have i_6 := hl1
  clear hl hl1
  refine sf_sp (L := [(0, .inl (.ref 71)), (1, .inl (.int a_h)), (2, .inl (.int a_land)), (3, .inl (.int a_when))]) rfl rfl ?_
  generalize ku_M_rateOf rt xt 1000000000000 = K at i_6 ⊢
  refine sf_iconst sf_cm1 (fun z11 ez11 => ?_)
  refine sf_istore (L' := [(0, .inl (.ref 71)), (1, .inl (.int a_h)), (2, .inl (.int a_land)), (3, .inl (.int a_when))]) rfl ?_
  refine sf_iload rfl ?_
  refine sf_istore (L' := [(4, .inl (.int z11)), (0, .inl (.ref 71)), (1, .inl (.int a_h)), (2, .inl (.int a_land)), (3, .inl (.int a_when))]) rfl ?_
  refine sf_can (L' := [(0, .inl (.ref 71)), (2, .inl (.int a_land)), (3, .inl (.int a_when)), (4, .inl (.int z11)), (5, .inl (.int a_h))]) rfl ?_
  exact i_6 z11 a_h (by omega) (by omega) (by omega) (by omega) (by exact Or.inr ⟨by omega, rfl⟩) (by omega)
def sm_M_quotaOf : List Nat := []
set_option maxRecDepth 100000 in
set_option maxHeartbeats 4000000 in
theorem sc_M_quotaOf {w0 : wq_W} (hI0 : sf_I w0) {rt : Option wq_V → wq_W → Prop} {xt : Nat → wq_W → Prop} {a_h : Int32} {a_land : Int32} {a_when : Int32} (p0 : 0 ≤ a_h.toInt) (p1 : a_h.toInt ≤ 23) (p2 : 0 < (sf_f w0 71 1).toInt) (hR : ∀ (r : Int32), (-1) ≤ r.toInt → r.toInt ≤ 7 → rt (some (.inl (.int r))) w0) : ks_M_quotaOf [.inl (.ref 71), .inl (.int a_h), .inl (.int a_land), .inl (.int a_when)] w0 rt xt := by
  have hl : ∀ n : Nat, (∀ (x4 : Int32) (x5 : Int32), ((-1) ≤ x4.toInt) → (x4.toInt ≤ 7) → ((-1) ≤ x5.toInt) → (x5.toInt ≤ 7) → (x5.toInt + 1 < (n : Int)) → ku_M_quotaOf rt xt n 11 [(0, .inl (.ref 71)), (1, .inl (.int a_h)), (2, .inl (.int a_land)), (3, .inl (.int a_when)), (4, .inl (.int x4)), (5, .inl (.int x5))] [] w0 0 0) := by
    intro n
    induction n with
    | zero =>
      refine ?_
      · intros; omega
    | succ n ih =>
      have i_11 := ih
      intro x4 x5 l_x4 u_x4 l_x5 u_x5 hm
      show kh_M_quotaOf_11 rt xt (ku_M_quotaOf rt xt n) [(0, .inl (.ref 71)), (1, .inl (.int a_h)), (2, .inl (.int a_land)), (3, .inl (.int a_when)), (4, .inl (.int x4)), (5, .inl (.int x5))] [] w0 0 0
      generalize ku_M_quotaOf rt xt n = K at i_11 ⊢
      refine sf_iload rfl ?_
      refine sf_f1_lt (fun h1 => ?_) (fun h1 => ?_)
      · refine sf_iload rfl ?_
        refine sf_ireturn rfl rfl ?_
        exact hR _ (by omega) (by omega) 
      · refine sf_aload rfl ?_
        refine sf_iload rfl ?_
        refine sf_aload rfl ?_
        refine sf_getr hI0 rfl rfl ?_
        refine sf_iload rfl ?_
        refine sf_iald hI0 rfl (by omega) (fun v2 lv2 uv2 ev2 => ?_)
        clear lv2 uv2
        clear ev2
        refine sf_call3 rfl rfl rfl ?_
        refine sf_rv hI0 rfl ?_
        refine sc_M_isUnder hI0 (by omega) (by omega) (by omega) (fun v3 lv3 uv3 q4_0 => ?_)
        refine sf_f1_eq (fun h5 => ?_) (fun h5 => ?_)
        · refine sf_iload rfl ?_
          refine sf_istore (L' := [(0, .inl (.ref 71)), (1, .inl (.int a_h)), (2, .inl (.int a_land)), (3, .inl (.int a_when)), (5, .inl (.int x5))]) rfl ?_
          refine sf_iinc (L' := [(4, .inl (.int x4)), (0, .inl (.ref 71)), (1, .inl (.int a_h)), (2, .inl (.int a_land)), (3, .inl (.int a_when))]) sf_cm1 rfl rfl (by omega) (fun v6 ev6 => ?_)
          refine sf_can (L' := [(0, .inl (.ref 71)), (1, .inl (.int a_h)), (2, .inl (.int a_land)), (3, .inl (.int a_when)), (4, .inl (.int x4)), (5, .inl (.int v6))]) rfl ?_
          exact i_11 x4 v6 (by omega) (by omega) (by omega) (by omega) (by omega)
        · refine sf_aload rfl ?_
          refine sf_getr hI0 rfl rfl ?_
          refine sf_iload rfl ?_
          refine sf_iald hI0 rfl (by omega) (fun v7 lv7 uv7 ev7 => ?_)
          clear lv7 uv7
          clear ev7
          refine sf_iload rfl ?_
          refine sf_f2_eq (fun h8 => ?_) (fun h8 => ?_)
          · refine sf_iload rfl ?_
            refine sf_aload rfl ?_
            refine sf_getr hI0 rfl rfl ?_
            refine sf_iload rfl ?_
            refine sf_iald hI0 rfl (by omega) (fun v9 lv9 uv9 ev9 => ?_)
            clear lv9 uv9
            clear ev9
            refine sf_f2_lt (fun h10 => ?_) (fun h10 => ?_)
            · refine sf_iload rfl ?_
              refine sf_istore (L' := [(0, .inl (.ref 71)), (1, .inl (.int a_h)), (2, .inl (.int a_land)), (3, .inl (.int a_when)), (5, .inl (.int x5))]) rfl ?_
              refine sf_iinc (L' := [(4, .inl (.int x4)), (0, .inl (.ref 71)), (1, .inl (.int a_h)), (2, .inl (.int a_land)), (3, .inl (.int a_when))]) sf_cm1 rfl rfl (by omega) (fun v11 ev11 => ?_)
              refine sf_can (L' := [(0, .inl (.ref 71)), (1, .inl (.int a_h)), (2, .inl (.int a_land)), (3, .inl (.int a_when)), (4, .inl (.int x4)), (5, .inl (.int v11))]) rfl ?_
              exact i_11 x4 v11 (by omega) (by omega) (by omega) (by omega) (by omega)
            · refine sf_iload rfl ?_
              refine sf_aload rfl ?_
              refine sf_getr hI0 rfl rfl ?_
              refine sf_iload rfl ?_
              refine sf_iald hI0 rfl (by omega) (fun v12 lv12 uv12 ev12 => ?_)
              clear lv12 uv12
              clear ev12
              refine sf_f2_gt (fun h13 => ?_) (fun h13 => ?_)
              · refine sf_iload rfl ?_
                refine sf_istore (L' := [(0, .inl (.ref 71)), (1, .inl (.int a_h)), (2, .inl (.int a_land)), (3, .inl (.int a_when)), (5, .inl (.int x5))]) rfl ?_
                refine sf_iinc (L' := [(4, .inl (.int x4)), (0, .inl (.ref 71)), (1, .inl (.int a_h)), (2, .inl (.int a_land)), (3, .inl (.int a_when))]) sf_cm1 rfl rfl (by omega) (fun v14 ev14 => ?_)
                refine sf_can (L' := [(0, .inl (.ref 71)), (1, .inl (.int a_h)), (2, .inl (.int a_land)), (3, .inl (.int a_when)), (4, .inl (.int x4)), (5, .inl (.int v14))]) rfl ?_
                exact i_11 x4 v14 (by omega) (by omega) (by omega) (by omega) (by omega)
              · refine sf_iload rfl ?_
                refine sf_istore (L' := [(0, .inl (.ref 71)), (1, .inl (.int a_h)), (2, .inl (.int a_land)), (3, .inl (.int a_when)), (5, .inl (.int x5))]) rfl ?_
                refine sf_iinc (L' := [(4, .inl (.int x5)), (0, .inl (.ref 71)), (1, .inl (.int a_h)), (2, .inl (.int a_land)), (3, .inl (.int a_when))]) sf_cm1 rfl rfl (by omega) (fun v15 ev15 => ?_)
                refine sf_can (L' := [(0, .inl (.ref 71)), (1, .inl (.int a_h)), (2, .inl (.int a_land)), (3, .inl (.int a_when)), (4, .inl (.int x5)), (5, .inl (.int v15))]) rfl ?_
                exact i_11 x5 v15 (by omega) (by omega) (by omega) (by omega) (by omega)
          · refine sf_iload rfl ?_
            refine sf_istore (L' := [(0, .inl (.ref 71)), (1, .inl (.int a_h)), (2, .inl (.int a_land)), (3, .inl (.int a_when)), (5, .inl (.int x5))]) rfl ?_
            refine sf_iinc (L' := [(4, .inl (.int x4)), (0, .inl (.ref 71)), (1, .inl (.int a_h)), (2, .inl (.int a_land)), (3, .inl (.int a_when))]) sf_cm1 rfl rfl (by omega) (fun v16 ev16 => ?_)
            refine sf_can (L' := [(0, .inl (.ref 71)), (1, .inl (.int a_h)), (2, .inl (.int a_land)), (3, .inl (.int a_when)), (4, .inl (.int x4)), (5, .inl (.int v16))]) rfl ?_
            exact i_11 x4 v16 (by omega) (by omega) (by omega) (by omega) (by omega)
  have hl1 := hl 1000000000000
  have i_11 := hl1
  clear hl hl1
  refine sf_sp (L := [(0, .inl (.ref 71)), (1, .inl (.int a_h)), (2, .inl (.int a_land)), (3, .inl (.int a_when))]) rfl rfl ?_
  generalize ku_M_quotaOf rt xt 1000000000000 = K at i_11 ⊢
  refine sf_iconst sf_cm1 (fun z17 ez17 => ?_)
  refine sf_istore (L' := [(0, .inl (.ref 71)), (1, .inl (.int a_h)), (2, .inl (.int a_land)), (3, .inl (.int a_when))]) rfl ?_
  refine sf_aload rfl ?_
  refine sf_geti hI0 rfl rfl (fun v18 lv18 uv18 ev18 => ?_)
  refine sf_iconst sf_c1 (fun z19 ez19 => ?_)
  refine sf_isub (by omega) (fun v20 ev20 => ?_)
  refine sf_istore (L' := [(4, .inl (.int z17)), (0, .inl (.ref 71)), (1, .inl (.int a_h)), (2, .inl (.int a_land)), (3, .inl (.int a_when))]) rfl ?_
  refine sf_can (L' := [(0, .inl (.ref 71)), (1, .inl (.int a_h)), (2, .inl (.int a_land)), (3, .inl (.int a_when)), (4, .inl (.int z17)), (5, .inl (.int v20))]) rfl ?_
  exact i_11 z17 v20 (by omega) (by omega) (by omega) (by omega) (by omega)
def sm_M_reaches : List Nat := [100]
set_option maxRecDepth 100000 in
set_option maxHeartbeats 4000000 in
theorem sc_M_reaches {w0 : wq_W} (hI0 : sf_I w0) {rt : Option wq_V → wq_W → Prop} {xt : Nat → wq_W → Prop} {a_good : Int32} {a_other : Int32} (p0 : 0 ≤ a_other.toInt) (p1 : a_other.toInt ≤ 15) (hR : ∀ (r : Int32) (w : wq_W), sf_I w → sf_m sm_M_reaches w0 w → 0 ≤ r.toInt → r.toInt ≤ 1 → rt (some (.inl (.int r))) w) : ks_M_reaches [.inl (.ref 71), .inl (.int a_good), .inl (.int a_other)] w0 rt xt := by
  have hs0 : sf_m sm_M_reaches w0 w0 := sf_m0
  have hl : ∀ n : Nat, (∀ (w : wq_W) (x3 : Int32), (sf_I w) → (sf_m sm_M_reaches w0 w) → (0 ≤ x3.toInt) → (x3.toInt ≤ 16) → (10000 - x3.toInt < (n : Int)) → ku_M_reaches rt xt n 2 [(0, .inl (.ref 71)), (1, .inl (.int a_good)), (2, .inl (.int a_other)), (3, .inl (.int x3))] [] w 0 0) ∧ (∀ (w : wq_W) (x3 : Int32), (sf_I w) → (sf_m sm_M_reaches w0 w) → (0 ≤ x3.toInt) → (x3.toInt ≤ 16) → ((16 - x3.toInt) * 400 + 399 < (n : Int)) → ku_M_reaches rt xt n 32 [(0, .inl (.ref 71)), (2, .inl (.int a_other)), (3, .inl (.int x3))] [] w 0 0) ∧ (∀ (w : wq_W) (x3 : Int32) (x4 : Int32), (sf_I w) → (sf_m sm_M_reaches w0 w) → (0 ≤ x3.toInt) → (x3.toInt ≤ 15) → (0 ≤ x4.toInt) → (x4.toInt ≤ 16) → ((16 - x3.toInt) * 400 + (16 - x4.toInt) * 10 + 6 < (n : Int)) → ku_M_reaches rt xt n 41 [(0, .inl (.ref 71)), (2, .inl (.int a_other)), (3, .inl (.int x3)), (4, .inl (.int x4))] [] w 0 0) ∧ (∀ (w : wq_W) (x3 : Int32) (x4 : Int32) (x5 : Int32), (sf_I w) → (sf_m sm_M_reaches w0 w) → (0 ≤ x3.toInt) → (x3.toInt ≤ 15) → (0 ≤ x4.toInt) → (x4.toInt ≤ 15) → (0 ≤ x5.toInt) → (x5.toInt ≤ 5) → ((16 - x3.toInt) * 400 + (16 - x4.toInt) * 10 + 5 - x5.toInt < (n : Int)) → ku_M_reaches rt xt n 51 [(0, .inl (.ref 71)), (2, .inl (.int a_other)), (3, .inl (.int x3)), (4, .inl (.int x4)), (5, .inl (.int x5))] [] w 0 0) := by
    intro n
    induction n with
    | zero =>
      refine ⟨?_, ?_, ?_, ?_⟩
      · intros; omega
      · intros; omega
      · intros; omega
      · intros; omega
    | succ n ih =>
      obtain ⟨i_2, i_32, i_41, i_51⟩ := ih
      refine ⟨?_, ?_, ?_, ?_⟩
      · intro w x3 I_w s_w l_x3 u_x3 hm
        show kh_M_reaches_2 rt xt (ku_M_reaches rt xt n) [(0, .inl (.ref 71)), (1, .inl (.int a_good)), (2, .inl (.int a_other)), (3, .inl (.int x3))] [] w 0 0
        generalize ku_M_reaches rt xt n = K at i_2 i_32 i_41 i_51 ⊢
        refine sf_iload rfl ?_
        refine sf_iconst sf_c16 (fun z1 ez1 => ?_)
        refine sf_f2_ge (fun h2 => ?_) (fun h2 => ?_)
        · refine sf_iconst sf_c0 (fun z3 ez3 => ?_)
          refine sf_istore (L' := [(0, .inl (.ref 71)), (1, .inl (.int a_good)), (2, .inl (.int a_other))]) rfl ?_
          refine sf_can (L' := [(0, .inl (.ref 71)), (2, .inl (.int a_other)), (3, .inl (.int z3))]) rfl ?_
          exact i_32 w z3 I_w s_w (by omega) (by omega) (by omega)
        · refine sf_aload rfl ?_
          refine sf_getr I_w rfl rfl ?_
          refine sf_iload rfl ?_
          refine sf_iload rfl ?_
          refine sf_iload rfl ?_
          refine sf_f2_eq (fun h4 => ?_) (fun h4 => ?_)
          · refine sf_iconst sf_c1 (fun z5 ez5 => ?_)
            refine sf_zast I_w s_w rfl (by omega) (by omega) rfl rfl (fun w6 Iw6 sw6 kw6 uw6 => ?_)
            clear kw6 uw6
            refine sf_iinc (L' := [(0, .inl (.ref 71)), (1, .inl (.int a_good)), (2, .inl (.int a_other))]) sf_c1 rfl rfl (by omega) (fun v7 ev7 => ?_)
            refine sf_can (L' := [(0, .inl (.ref 71)), (1, .inl (.int a_good)), (2, .inl (.int a_other)), (3, .inl (.int v7))]) rfl ?_
            exact i_2 w6 v7 Iw6 sw6 (by omega) (by omega) (by omega)
          · refine sf_iconst sf_c0 (fun z8 ez8 => ?_)
            refine sf_zast I_w s_w rfl (by omega) (by omega) rfl rfl (fun w9 Iw9 sw9 kw9 uw9 => ?_)
            clear kw9 uw9
            refine sf_iinc (L' := [(0, .inl (.ref 71)), (1, .inl (.int a_good)), (2, .inl (.int a_other))]) sf_c1 rfl rfl (by omega) (fun v10 ev10 => ?_)
            refine sf_can (L' := [(0, .inl (.ref 71)), (1, .inl (.int a_good)), (2, .inl (.int a_other)), (3, .inl (.int v10))]) rfl ?_
            exact i_2 w9 v10 Iw9 sw9 (by omega) (by omega) (by omega)
      · intro w x3 I_w s_w l_x3 u_x3 hm
        show kh_M_reaches_32 rt xt (ku_M_reaches rt xt n) [(0, .inl (.ref 71)), (2, .inl (.int a_other)), (3, .inl (.int x3))] [] w 0 0
        generalize ku_M_reaches rt xt n = K at i_2 i_32 i_41 i_51 ⊢
        refine sf_iload rfl ?_
        refine sf_iconst sf_c16 (fun z11 ez11 => ?_)
        refine sf_f2_ge (fun h12 => ?_) (fun h12 => ?_)
        · refine sf_aload rfl ?_
          refine sf_getr I_w rfl rfl ?_
          refine sf_iload rfl ?_
          refine sf_zald I_w rfl (by omega) (fun v13 lv13 uv13 ev13 => ?_)
          clear ev13
          refine sf_zreturn (by omega) rfl rfl ?_
          exact hR _ _ I_w s_w (by omega) (by omega) 
        · refine sf_iconst sf_c0 (fun z14 ez14 => ?_)
          refine sf_istore (L' := [(0, .inl (.ref 71)), (2, .inl (.int a_other)), (3, .inl (.int x3))]) rfl ?_
          refine sf_can (L' := [(0, .inl (.ref 71)), (2, .inl (.int a_other)), (3, .inl (.int x3)), (4, .inl (.int z14))]) rfl ?_
          exact i_41 w x3 z14 I_w s_w (by omega) (by omega) (by omega) (by omega) (by omega)
      · intro w x3 x4 I_w s_w l_x3 u_x3 l_x4 u_x4 hm
        show kh_M_reaches_41 rt xt (ku_M_reaches rt xt n) [(0, .inl (.ref 71)), (2, .inl (.int a_other)), (3, .inl (.int x3)), (4, .inl (.int x4))] [] w 0 0
        generalize ku_M_reaches rt xt n = K at i_2 i_32 i_41 i_51 ⊢
        refine sf_iload rfl ?_
        refine sf_iconst sf_c16 (fun z15 ez15 => ?_)
        refine sf_f2_ge (fun h16 => ?_) (fun h16 => ?_)
        · refine sf_iinc (L' := [(0, .inl (.ref 71)), (2, .inl (.int a_other)), (4, .inl (.int x4))]) sf_c1 rfl rfl (by omega) (fun v17 ev17 => ?_)
          refine sf_can (L' := [(0, .inl (.ref 71)), (2, .inl (.int a_other)), (3, .inl (.int v17))]) rfl ?_
          exact i_32 w v17 I_w s_w (by omega) (by omega) (by omega)
        · refine sf_iconst sf_c0 (fun z18 ez18 => ?_)
          refine sf_istore (L' := [(0, .inl (.ref 71)), (2, .inl (.int a_other)), (3, .inl (.int x3)), (4, .inl (.int x4))]) rfl ?_
          refine sf_can (L' := [(0, .inl (.ref 71)), (2, .inl (.int a_other)), (3, .inl (.int x3)), (4, .inl (.int x4)), (5, .inl (.int z18))]) rfl ?_
          exact i_51 w x3 x4 z18 I_w s_w (by omega) (by omega) (by omega) (by omega) (by omega) (by omega) (by omega)
      · intro w x3 x4 x5 I_w s_w l_x3 u_x3 l_x4 u_x4 l_x5 u_x5 hm
        show kh_M_reaches_51 rt xt (ku_M_reaches rt xt n) [(0, .inl (.ref 71)), (2, .inl (.int a_other)), (3, .inl (.int x3)), (4, .inl (.int x4)), (5, .inl (.int x5))] [] w 0 0
        generalize ku_M_reaches rt xt n = K at i_2 i_32 i_41 i_51 ⊢
        refine sf_iload rfl ?_
        refine sf_aload rfl ?_
        refine sf_getr I_w rfl rfl ?_
        refine sf_iload rfl ?_
        refine sf_iald I_w rfl (by omega) (fun v19 lv19 uv19 ev19 => ?_)
        rw [sf_ma s_w (p := 94) rfl] at ev19
        refine sf_f2_ge (fun h20 => ?_) (fun h20 => ?_)
        · refine sf_iinc (L' := [(0, .inl (.ref 71)), (2, .inl (.int a_other)), (3, .inl (.int x3)), (5, .inl (.int x5))]) sf_c1 rfl rfl (by omega) (fun v21 ev21 => ?_)
          refine sf_can (L' := [(0, .inl (.ref 71)), (2, .inl (.int a_other)), (3, .inl (.int x3)), (4, .inl (.int v21))]) rfl ?_
          exact i_41 w x3 v21 I_w s_w (by omega) (by omega) (by omega) (by omega) (by omega)
        · refine sf_aload rfl ?_
          refine sf_getr I_w rfl rfl ?_
          refine sf_iload rfl ?_
          refine sf_zald I_w rfl (by omega) (fun v22 lv22 uv22 ev22 => ?_)
          clear ev22
          refine sf_f1_eq (fun h23 => ?_) (fun h23 => ?_)
          · refine sf_iinc (L' := [(0, .inl (.ref 71)), (2, .inl (.int a_other)), (3, .inl (.int x3)), (5, .inl (.int x5))]) sf_c1 rfl rfl (by omega) (fun v24 ev24 => ?_)
            refine sf_can (L' := [(0, .inl (.ref 71)), (2, .inl (.int a_other)), (3, .inl (.int x3)), (4, .inl (.int v24))]) rfl ?_
            exact i_41 w x3 v24 I_w s_w (by omega) (by omega) (by omega) (by omega) (by omega)
          · refine sf_aload rfl ?_
            refine sf_getr I_w rfl rfl ?_
            refine sf_aload rfl ?_
            refine sf_getr I_w rfl rfl ?_
            refine sf_iconst sf_c5 (fun z25 ez25 => ?_)
            refine sf_iload rfl ?_
            refine sf_imull (n := 5) (by omega) (by omega) (fun v26 ev26 => ?_)
            refine sf_iload rfl ?_
            refine sf_iadd (by omega) (fun v27 ev27 => ?_)
            refine sf_iald I_w rfl (by omega) (fun v28 lv28 uv28 ev28 => ?_)
            clear ev28
            refine sf_iconst sf_c1 (fun z29 ez29 => ?_)
            refine sf_zast I_w s_w rfl (by omega) (by omega) rfl rfl (fun w30 Iw30 sw30 kw30 uw30 => ?_)
            clear kw30 uw30
            refine sf_iinc (L' := [(0, .inl (.ref 71)), (2, .inl (.int a_other)), (3, .inl (.int x3)), (4, .inl (.int x4))]) sf_c1 rfl rfl (by omega) (fun v31 ev31 => ?_)
            refine sf_can (L' := [(0, .inl (.ref 71)), (2, .inl (.int a_other)), (3, .inl (.int x3)), (4, .inl (.int x4)), (5, .inl (.int v31))]) rfl ?_
            exact i_51 w30 x3 x4 v31 Iw30 sw30 (by omega) (by omega) (by omega) (by omega) (by omega) (by omega) (by omega)
  have hl1 := hl 1000000000000
  obtain ⟨i_2, i_32, i_41, i_51⟩ := hl1
  clear hl
  refine sf_sp (L := [(0, .inl (.ref 71)), (1, .inl (.int a_good)), (2, .inl (.int a_other))]) rfl rfl ?_
  generalize ku_M_reaches rt xt 1000000000000 = K at i_2 i_32 i_41 i_51 ⊢
  refine sf_iconst sf_c0 (fun z32 ez32 => ?_)
  refine sf_istore (L' := [(0, .inl (.ref 71)), (1, .inl (.int a_good)), (2, .inl (.int a_other))]) rfl ?_
  refine sf_can (L' := [(0, .inl (.ref 71)), (1, .inl (.int a_good)), (2, .inl (.int a_other)), (3, .inl (.int z32))]) rfl ?_
  exact i_2 w0 z32 hI0 hs0 (by omega) (by omega) (by omega)
