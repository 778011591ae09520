def sm_M_classOf : List Nat := []
set_option maxRecDepth 100000 in
set_option maxHeartbeats 4000000 in
theorem sc_M_classOf {w0 : wq_W} (hI0 : sf_I w0) {rt : Option wq_V → wq_W → Prop} {xt : Nat → wq_W → Prop} {a_good : Int32} (p0 : 0 ≤ a_good.toInt) (p1 : a_good.toInt ≤ 15) (hR : ∀ (r : Int32), (-1) ≤ r.toInt → r.toInt ≤ 23 → (r.toInt < (sf_f w0 71 1).toInt) → rt (some (.inl (.int r))) w0) : ks_M_classOf [.inl (.ref 71), .inl (.int a_good)] w0 rt xt := by
  have h00 := sf_hd hI0
  have hl : ∀ n : Nat, (∀ (x2 : Int32) (x3 : Int32), ((-1) ≤ x2.toInt) → (x2.toInt ≤ 23) → (0 ≤ x3.toInt) → (x3.toInt ≤ 24) → (x2.toInt < (sf_f w0 71 1).toInt) → (24 - x3.toInt < (n : Int)) → ku_M_classOf rt xt n 4 [(0, .inl (.ref 71)), (1, .inl (.int a_good)), (2, .inl (.int x2)), (3, .inl (.int x3))] [] w0 0 0) := by
    intro n
    induction n with
    | zero =>
      refine ?_
      · intros; omega
    | succ n ih =>
      have i_4 := ih
      intro x2 x3 l_x2 u_x2 l_x3 u_x3 f_0 hm
      show kh_M_classOf_4 rt xt (ku_M_classOf rt xt n) [(0, .inl (.ref 71)), (1, .inl (.int a_good)), (2, .inl (.int x2)), (3, .inl (.int x3))] [] w0 0 0
      generalize ku_M_classOf rt xt n = K at i_4 ⊢
      refine sf_iload rfl ?_
      refine sf_aload rfl ?_
      refine sf_geti hI0 rfl rfl (fun v1 lv1 uv1 ev1 => ?_)
      refine sf_f2_ge (fun h2 => ?_) (fun h2 => ?_)
      · refine sf_iload rfl ?_
        refine sf_ireturn rfl rfl ?_
        exact hR _ (by omega) (by omega) (by omega)
      · refine sf_aload rfl ?_
        refine sf_iload rfl ?_
        refine sf_iload rfl ?_
        refine sf_call3 rfl rfl rfl ?_
        refine sf_rv hI0 rfl ?_
        refine sc_M_fits hI0 (by omega) (by omega) (by omega) (by omega) (by omega) (fun v3 lv3 uv3 => ?_)
        refine sf_f1_eq (fun h5 => ?_) (fun h5 => ?_)
        · refine sf_iinc (L' := [(0, .inl (.ref 71)), (1, .inl (.int a_good)), (2, .inl (.int x2))]) sf_c1 rfl rfl (by omega) (fun v6 ev6 => ?_)
          refine sf_can (L' := [(0, .inl (.ref 71)), (1, .inl (.int a_good)), (2, .inl (.int x2)), (3, .inl (.int v6))]) rfl ?_
          exact i_4 x2 v6 (by omega) (by omega) (by omega) (by omega) (by omega) (by omega)
        · refine sf_iload rfl ?_
          refine sf_f1_ge (fun h7 => ?_) (fun h7 => ?_)
          · refine sf_aload rfl ?_
            refine sf_iload rfl ?_
            refine sf_call2 rfl rfl rfl ?_
            refine sf_rv hI0 rfl ?_
            refine sc_M_depthOf hI0 (by omega) (by omega) (by omega) (fun v8 => ?_)
            refine sf_aload rfl ?_
            refine sf_iload rfl ?_
            refine sf_call2 rfl rfl rfl ?_
            refine sf_rv hI0 rfl ?_
            refine sc_M_depthOf hI0 (by omega) (by omega) (by omega) (fun v10 => ?_)
            refine sf_i2 (fun v12 => ?_)
            refine sf_istore (L' := [(0, .inl (.ref 71)), (1, .inl (.int a_good)), (2, .inl (.int x2)), (3, .inl (.int x3))]) rfl ?_
            refine sf_iload rfl ?_
            refine sf_f1_gt (fun h13 => ?_) (fun h13 => ?_)
            · refine sf_iload rfl ?_
              refine sf_istore (L' := [(4, .inl (.int v12)), (0, .inl (.ref 71)), (1, .inl (.int a_good)), (3, .inl (.int x3))]) rfl ?_
              refine sf_iinc (L' := [(2, .inl (.int x3)), (4, .inl (.int v12)), (0, .inl (.ref 71)), (1, .inl (.int a_good))]) sf_c1 rfl rfl (by omega) (fun v14 ev14 => ?_)
              refine sf_can (L' := [(0, .inl (.ref 71)), (1, .inl (.int a_good)), (2, .inl (.int x3)), (3, .inl (.int v14))]) rfl ?_
              exact i_4 x3 v14 (by omega) (by omega) (by omega) (by omega) (by omega) (by omega)
            · refine sf_iload rfl ?_
              refine sf_f1_eq (fun h15 => ?_) (fun h15 => ?_)
              · refine sf_aload rfl ?_
                refine sf_iload rfl ?_
                refine sf_iload rfl ?_
                refine sf_call3 rfl rfl rfl ?_
                refine sf_rv hI0 rfl ?_
                refine sc_M_shareOf hI0 (by omega) (by omega) (by omega) (by omega) (by omega) (fun v16 => ?_)
                refine sf_aload rfl ?_
                refine sf_iload rfl ?_
                refine sf_iload rfl ?_
                refine sf_call3 rfl rfl rfl ?_
                refine sf_rv hI0 rfl ?_
                refine sc_M_shareOf hI0 (by omega) (by omega) (by omega) (by omega) (by omega) (fun v18 => ?_)
                refine sf_f2_lt (fun h20 => ?_) (fun h20 => ?_)
                · refine sf_iload rfl ?_
                  refine sf_istore (L' := [(4, .inl (.int v12)), (0, .inl (.ref 71)), (1, .inl (.int a_good)), (3, .inl (.int x3))]) rfl ?_
                  refine sf_iinc (L' := [(2, .inl (.int x2)), (4, .inl (.int v12)), (0, .inl (.ref 71)), (1, .inl (.int a_good))]) sf_c1 rfl rfl (by omega) (fun v21 ev21 => ?_)
                  refine sf_can (L' := [(0, .inl (.ref 71)), (1, .inl (.int a_good)), (2, .inl (.int x2)), (3, .inl (.int v21))]) rfl ?_
                  exact i_4 x2 v21 (by omega) (by omega) (by omega) (by omega) (by omega) (by omega)
                · refine sf_iload rfl ?_
                  refine sf_istore (L' := [(4, .inl (.int v12)), (0, .inl (.ref 71)), (1, .inl (.int a_good)), (3, .inl (.int x3))]) rfl ?_
                  refine sf_iinc (L' := [(2, .inl (.int x3)), (4, .inl (.int v12)), (0, .inl (.ref 71)), (1, .inl (.int a_good))]) sf_c1 rfl rfl (by omega) (fun v22 ev22 => ?_)
                  refine sf_can (L' := [(0, .inl (.ref 71)), (1, .inl (.int a_good)), (2, .inl (.int x3)), (3, .inl (.int v22))]) rfl ?_
                  exact i_4 x3 v22 (by omega) (by omega) (by omega) (by omega) (by omega) (by omega)
              · refine sf_iload rfl ?_
                refine sf_istore (L' := [(4, .inl (.int v12)), (0, .inl (.ref 71)), (1, .inl (.int a_good)), (3, .inl (.int x3))]) rfl ?_
                refine sf_iinc (L' := [(2, .inl (.int x2)), (4, .inl (.int v12)), (0, .inl (.ref 71)), (1, .inl (.int a_good))]) sf_c1 rfl rfl (by omega) (fun v23 ev23 => ?_)
                refine sf_can (L' := [(0, .inl (.ref 71)), (1, .inl (.int a_good)), (2, .inl (.int x2)), (3, .inl (.int v23))]) rfl ?_
                exact i_4 x2 v23 (by omega) (by omega) (by omega) (by omega) (by omega) (by omega)
          · refine sf_iconst sf_c1 (fun z24 ez24 => ?_)
            refine sf_istore (L' := [(0, .inl (.ref 71)), (1, .inl (.int a_good)), (2, .inl (.int x2)), (3, .inl (.int x3))]) rfl ?_
            refine sf_iload rfl ?_
            refine sf_f1_gt (fun h25 => ?_) (fun h25 => absurd h25 (by omega))
            refine sf_iload rfl ?_
            refine sf_istore (L' := [(4, .inl (.int z24)), (0, .inl (.ref 71)), (1, .inl (.int a_good)), (3, .inl (.int x3))]) rfl ?_
            refine sf_iinc (L' := [(2, .inl (.int x3)), (4, .inl (.int z24)), (0, .inl (.ref 71)), (1, .inl (.int a_good))]) sf_c1 rfl rfl (by omega) (fun v26 ev26 => ?_)
            refine sf_can (L' := [(0, .inl (.ref 71)), (1, .inl (.int a_good)), (2, .inl (.int x3)), (3, .inl (.int v26))]) rfl ?_
            exact i_4 x3 v26 (by omega) (by omega) (by omega) (by omega) (by omega) (by omega)
  have hl1 := hl 1000000000000
  have i_4 := hl1
  clear hl hl1
  refine sf_sp (L := [(0, .inl (.ref 71)), (1, .inl (.int a_good))]) rfl rfl ?_
  generalize ku_M_classOf rt xt 1000000000000 = K at i_4 ⊢
  refine sf_iconst sf_cm1 (fun z27 ez27 => ?_)
  refine sf_istore (L' := [(0, .inl (.ref 71)), (1, .inl (.int a_good))]) rfl ?_
  refine sf_iconst sf_c0 (fun z28 ez28 => ?_)
  refine sf_istore (L' := [(2, .inl (.int z27)), (0, .inl (.ref 71)), (1, .inl (.int a_good))]) rfl ?_
  refine sf_can (L' := [(0, .inl (.ref 71)), (1, .inl (.int a_good)), (2, .inl (.int z27)), (3, .inl (.int z28))]) rfl ?_
  exact i_4 z27 z28 (by omega) (by omega) (by omega) (by omega) (by omega) (by omega)
def sm_M_lastRate : List Nat := []
set_option maxRecDepth 100000 in
set_option maxHeartbeats 4000000 in
theorem sc_M_lastRate {w0 : wq_W} (hI0 : sf_I w0) {rt : Option wq_V → wq_W → Prop} {xt : Nat → wq_W → Prop} {a_h : Int32} {a_land : Int32} {a_when : Int32}  (hR : ∀ (r : Int32), (-1) ≤ r.toInt → r.toInt ≤ 39 → rt (some (.inl (.int r))) w0) : ks_M_lastRate [.inl (.ref 71), .inl (.int a_h), .inl (.int a_land), .inl (.int a_when)] w0 rt xt := by
  have hl : ∀ n : Nat, (∀ (x4 : Int32) (x5 : Int32), ((-1) ≤ x4.toInt) → (x4.toInt ≤ 39) → (0 ≤ x5.toInt) → (x5.toInt ≤ 40) → (40 - x5.toInt < (n : Int)) → ku_M_lastRate rt xt n 6 [(0, .inl (.ref 71)), (1, .inl (.int a_h)), (2, .inl (.int a_land)), (3, .inl (.int a_when)), (4, .inl (.int x4)), (5, .inl (.int x5))] [] w0 0 0) := by
    intro n
    induction n with
    | zero =>
      refine ?_
      · intros; omega
    | succ n ih =>
      have i_6 := ih
      intro x4 x5 l_x4 u_x4 l_x5 u_x5 hm
      show kh_M_lastRate_6 rt xt (ku_M_lastRate rt xt n) [(0, .inl (.ref 71)), (1, .inl (.int a_h)), (2, .inl (.int a_land)), (3, .inl (.int a_when)), (4, .inl (.int x4)), (5, .inl (.int x5))] [] w0 0 0
      generalize ku_M_lastRate rt xt n = K at i_6 ⊢
      refine sf_iload rfl ?_
      refine sf_aload rfl ?_
      refine sf_geti hI0 rfl rfl (fun v1 lv1 uv1 ev1 => ?_)
      refine sf_f2_ge (fun h2 => ?_) (fun h2 => ?_)
      · refine sf_iload rfl ?_
        refine sf_ireturn rfl rfl ?_
        exact hR _ (by omega) (by omega) 
      · refine sf_aload rfl ?_
        refine sf_getr hI0 rfl rfl ?_
        refine sf_iload rfl ?_
        refine sf_iald hI0 rfl (by omega) (fun v3 lv3 uv3 ev3 => ?_)
        clear lv3 uv3
        clear ev3
        refine sf_iload rfl ?_
        refine sf_f2_eq (fun h4 => ?_) (fun h4 => ?_)
        · refine sf_aload rfl ?_
          refine sf_getr hI0 rfl rfl ?_
          refine sf_iload rfl ?_
          refine sf_iald hI0 rfl (by omega) (fun v5 lv5 uv5 ev5 => ?_)
          clear lv5 uv5
          clear ev5
          refine sf_iload rfl ?_
          refine sf_f2_eq (fun h6 => ?_) (fun h6 => ?_)
          · refine sf_iload rfl ?_
            refine sf_aload rfl ?_
            refine sf_getr hI0 rfl rfl ?_
            refine sf_iload rfl ?_
            refine sf_iald hI0 rfl (by omega) (fun v7 lv7 uv7 ev7 => ?_)
            clear lv7 uv7
            clear ev7
            refine sf_f2_lt (fun h8 => ?_) (fun h8 => ?_)
            · refine sf_iload rfl ?_
              refine sf_istore (L' := [(0, .inl (.ref 71)), (1, .inl (.int a_h)), (2, .inl (.int a_land)), (3, .inl (.int a_when)), (5, .inl (.int x5))]) rfl ?_
              refine sf_iinc (L' := [(4, .inl (.int x4)), (0, .inl (.ref 71)), (1, .inl (.int a_h)), (2, .inl (.int a_land)), (3, .inl (.int a_when))]) sf_c1 rfl rfl (by omega) (fun v9 ev9 => ?_)
              refine sf_can (L' := [(0, .inl (.ref 71)), (1, .inl (.int a_h)), (2, .inl (.int a_land)), (3, .inl (.int a_when)), (4, .inl (.int x4)), (5, .inl (.int v9))]) rfl ?_
              exact i_6 x4 v9 (by omega) (by omega) (by omega) (by omega) (by omega)
            · refine sf_iload rfl ?_
              refine sf_aload rfl ?_
              refine sf_getr hI0 rfl rfl ?_
              refine sf_iload rfl ?_
              refine sf_iald hI0 rfl (by omega) (fun v10 lv10 uv10 ev10 => ?_)
              clear lv10 uv10
              clear ev10
              refine sf_f2_gt (fun h11 => ?_) (fun h11 => ?_)
              · refine sf_iload rfl ?_
                refine sf_istore (L' := [(0, .inl (.ref 71)), (1, .inl (.int a_h)), (2, .inl (.int a_land)), (3, .inl (.int a_when)), (5, .inl (.int x5))]) rfl ?_
                refine sf_iinc (L' := [(4, .inl (.int x4)), (0, .inl (.ref 71)), (1, .inl (.int a_h)), (2, .inl (.int a_land)), (3, .inl (.int a_when))]) sf_c1 rfl rfl (by omega) (fun v12 ev12 => ?_)
                refine sf_can (L' := [(0, .inl (.ref 71)), (1, .inl (.int a_h)), (2, .inl (.int a_land)), (3, .inl (.int a_when)), (4, .inl (.int x4)), (5, .inl (.int v12))]) rfl ?_
                exact i_6 x4 v12 (by omega) (by omega) (by omega) (by omega) (by omega)
              · refine sf_iload rfl ?_
                refine sf_istore (L' := [(0, .inl (.ref 71)), (1, .inl (.int a_h)), (2, .inl (.int a_land)), (3, .inl (.int a_when)), (5, .inl (.int x5))]) rfl ?_
                refine sf_iinc (L' := [(4, .inl (.int x5)), (0, .inl (.ref 71)), (1, .inl (.int a_h)), (2, .inl (.int a_land)), (3, .inl (.int a_when))]) sf_c1 rfl rfl (by omega) (fun v13 ev13 => ?_)
                refine sf_can (L' := [(0, .inl (.ref 71)), (1, .inl (.int a_h)), (2, .inl (.int a_land)), (3, .inl (.int a_when)), (4, .inl (.int x5)), (5, .inl (.int v13))]) rfl ?_
                exact i_6 x5 v13 (by omega) (by omega) (by omega) (by omega) (by omega)
          · refine sf_iload rfl ?_
            refine sf_istore (L' := [(0, .inl (.ref 71)), (1, .inl (.int a_h)), (2, .inl (.int a_land)), (3, .inl (.int a_when)), (5, .inl (.int x5))]) rfl ?_
            refine sf_iinc (L' := [(4, .inl (.int x4)), (0, .inl (.ref 71)), (1, .inl (.int a_h)), (2, .inl (.int a_land)), (3, .inl (.int a_when))]) sf_c1 rfl rfl (by omega) (fun v14 ev14 => ?_)
            refine sf_can (L' := [(0, .inl (.ref 71)), (1, .inl (.int a_h)), (2, .inl (.int a_land)), (3, .inl (.int a_when)), (4, .inl (.int x4)), (5, .inl (.int v14))]) rfl ?_
            exact i_6 x4 v14 (by omega) (by omega) (by omega) (by omega) (by omega)
        · refine sf_iload rfl ?_
          refine sf_istore (L' := [(0, .inl (.ref 71)), (1, .inl (.int a_h)), (2, .inl (.int a_land)), (3, .inl (.int a_when)), (5, .inl (.int x5))]) rfl ?_
          refine sf_iinc (L' := [(4, .inl (.int x4)), (0, .inl (.ref 71)), (1, .inl (.int a_h)), (2, .inl (.int a_land)), (3, .inl (.int a_when))]) sf_c1 rfl rfl (by omega) (fun v15 ev15 => ?_)
          refine sf_can (L' := [(0, .inl (.ref 71)), (1, .inl (.int a_h)), (2, .inl (.int a_land)), (3, .inl (.int a_when)), (4, .inl (.int x4)), (5, .inl (.int v15))]) rfl ?_
          exact i_6 x4 v15 (by omega) (by omega) (by omega) (by omega) (by omega)
  have hl1 := hl 1000000000000
  have i_6 := hl1
  clear hl hl1
  refine sf_sp (L := [(0, .inl (.ref 71)), (1, .inl (.int a_h)), (2, .inl (.int a_land)), (3, .inl (.int a_when))]) rfl rfl ?_
  generalize ku_M_lastRate rt xt 1000000000000 = K at i_6 ⊢
  refine sf_iconst sf_cm1 (fun z16 ez16 => ?_)
  refine sf_istore (L' := [(0, .inl (.ref 71)), (1, .inl (.int a_h)), (2, .inl (.int a_land)), (3, .inl (.int a_when))]) rfl ?_
  refine sf_iconst sf_c0 (fun z17 ez17 => ?_)
  refine sf_istore (L' := [(4, .inl (.int z16)), (0, .inl (.ref 71)), (1, .inl (.int a_h)), (2, .inl (.int a_land)), (3, .inl (.int a_when))]) rfl ?_
  refine sf_can (L' := [(0, .inl (.ref 71)), (1, .inl (.int a_h)), (2, .inl (.int a_land)), (3, .inl (.int a_when)), (4, .inl (.int z16)), (5, .inl (.int z17))]) rfl ?_
  exact i_6 z16 z17 (by omega) (by omega) (by omega) (by omega) (by omega)
def sm_M_rateOf : List Nat := []
set_option maxRecDepth 100000 in
set_option maxHeartbeats 4000000 in
theorem sc_M_rateOf {w0 : wq_W} (hI0 : sf_I w0) {rt : Option wq_V → wq_W → Prop} {xt : Nat → wq_W → Prop} {a_h : Int32} {a_land : Int32} {a_when : Int32} (p0 : 0 ≤ a_h.toInt) (p1 : a_h.toInt ≤ 23) (p2 : 0 < (sf_f w0 71 1).toInt) (hR : ∀ (r : Int32), (-1) ≤ r.toInt → r.toInt ≤ 39 → rt (some (.inl (.int r))) w0) : ks_M_rateOf [.inl (.ref 71), .inl (.int a_h), .inl (.int a_land), .inl (.int a_when)] w0 rt xt := by
  have hl : ∀ n : Nat, (∀ (x4 : Int32) (x5 : Int32), ((-1) ≤ x4.toInt) → (x4.toInt ≤ 39) → ((-1) ≤ x5.toInt) → (x5.toInt ≤ 23) → (x5.toInt + 1 < (n : Int)) → ku_M_rateOf rt xt n 6 [(0, .inl (.ref 71)), (2, .inl (.int a_land)), (3, .inl (.int a_when)), (4, .inl (.int x4)), (5, .inl (.int x5))] [] w0 0 0) := by
    intro n
    induction n with
    | zero =>
      refine ?_
      · intros; omega
    | succ n ih =>
      have i_6 := ih
      intro x4 x5 l_x4 u_x4 l_x5 u_x5 hm
      show kh_M_rateOf_6 rt xt (ku_M_rateOf rt xt n) [(0, .inl (.ref 71)), (2, .inl (.int a_land)), (3, .inl (.int a_when)), (4, .inl (.int x4)), (5, .inl (.int x5))] [] w0 0 0
      generalize ku_M_rateOf rt xt n = K at i_6 ⊢
      refine sf_iload rfl ?_
      refine sf_f1_lt (fun h1 => ?_) (fun h1 => ?_)
      · refine sf_iload rfl ?_
        refine sf_ireturn rfl rfl ?_
        exact hR _ (by omega) (by omega) 
      · refine sf_iload rfl ?_
        refine sf_f1_ge (fun h2 => ?_) (fun h2 => ?_)
        · refine sf_iload rfl ?_
          refine sf_ireturn rfl rfl ?_
          exact hR _ (by omega) (by omega) 
        · refine sf_aload rfl ?_
          refine sf_iload rfl ?_
          refine sf_iload rfl ?_
          refine sf_iload rfl ?_
          refine sf_call4 rfl rfl rfl ?_
          refine sf_rv hI0 rfl ?_
          refine sc_M_lastRate hI0  (fun v3 lv3 uv3 => ?_)
          refine sf_istore (L' := [(0, .inl (.ref 71)), (2, .inl (.int a_land)), (3, .inl (.int a_when)), (5, .inl (.int x5))]) rfl ?_
          refine sf_iload rfl ?_
          refine sf_f1_ge (fun h5 => ?_) (fun h5 => ?_)
          · refine sf_iload rfl ?_
            refine sf_istore (L' := [(0, .inl (.ref 71)), (2, .inl (.int a_land)), (3, .inl (.int a_when)), (5, .inl (.int x5))]) rfl ?_
            refine sf_aload rfl ?_
            refine sf_getr hI0 rfl rfl ?_
            refine sf_iload rfl ?_
            refine sf_iald hI0 rfl (by omega) (fun v6 lv6 uv6 ev6 => ?_)
            have r1 := sf_R1p hI0 (by omega) (i := x5) (by omega)
            refine sf_istore (L' := [(4, .inl (.int v3)), (0, .inl (.ref 71)), (2, .inl (.int a_land)), (3, .inl (.int a_when))]) rfl ?_
            refine sf_can (L' := [(0, .inl (.ref 71)), (2, .inl (.int a_land)), (3, .inl (.int a_when)), (4, .inl (.int v3)), (5, .inl (.int v6))]) rfl ?_
            exact i_6 v3 v6 (by omega) (by omega) (by omega) (by omega) (by omega)
          · refine sf_aload rfl ?_
            refine sf_iload rfl ?_
            refine sf_iconst sf_cm1 (fun z7 ez7 => ?_)
            refine sf_iload rfl ?_
            refine sf_call4 rfl rfl rfl ?_
            refine sf_rv hI0 rfl ?_
            refine sc_M_lastRate hI0  (fun v8 lv8 uv8 => ?_)
            refine sf_istore (L' := [(0, .inl (.ref 71)), (2, .inl (.int a_land)), (3, .inl (.int a_when)), (5, .inl (.int x5))]) rfl ?_
            refine sf_aload rfl ?_
            refine sf_getr hI0 rfl rfl ?_
            refine sf_iload rfl ?_
            refine sf_iald hI0 rfl (by omega) (fun v10 lv10 uv10 ev10 => ?_)
            have r1 := sf_R1p hI0 (by omega) (i := x5) (by omega)
            refine sf_istore (L' := [(4, .inl (.int v8)), (0, .inl (.ref 71)), (2, .inl (.int a_land)), (3, .inl (.int a_when))]) rfl ?_
            refine sf_can (L' := [(0, .inl (.ref 71)), (2, .inl (.int a_land)), (3, .inl (.int a_when)), (4, .inl (.int v8)), (5, .inl (.int v10))]) rfl ?_
            exact i_6 v8 v10 (by omega) (by omega) (by omega) (by omega) (by omega)
  have hl1 := hl 1000000000000
  have i_6 := hl1
  clear hl hl1
  refine sf_sp (L := [(0, .inl (.ref 71)), (1, .inl (.int a_h)), (2, .inl (.int a_land)), (3, .inl (.int a_when))]) rfl rfl ?_
  generalize ku_M_rateOf rt xt 1000000000000 = K at i_6 ⊢
  refine sf_iconst sf_cm1 (fun z11 ez11 => ?_)
  refine sf_istore (L' := [(0, .inl (.ref 71)), (1, .inl (.int a_h)), (2, .inl (.int a_land)), (3, .inl (.int a_when))]) rfl ?_
  refine sf_iload rfl ?_
  refine sf_istore (L' := [(4, .inl (.int z11)), (0, .inl (.ref 71)), (1, .inl (.int a_h)), (2, .inl (.int a_land)), (3, .inl (.int a_when))]) rfl ?_
  refine sf_can (L' := [(0, .inl (.ref 71)), (2, .inl (.int a_land)), (3, .inl (.int a_when)), (4, .inl (.int z11)), (5, .inl (.int a_h))]) rfl ?_
  exact i_6 z11 a_h (by omega) (by omega) (by omega) (by omega) (by omega)
def sm_M_quotaOf : List Nat := []
set_option maxRecDepth 100000 in
set_option maxHeartbeats 4000000 in
theorem sc_M_quotaOf {w0 : wq_W} (hI0 : sf_I w0) {rt : Option wq_V → wq_W → Prop} {xt : Nat → wq_W → Prop} {a_h : Int32} {a_land : Int32} {a_when : Int32} (p0 : 0 ≤ a_h.toInt) (p1 : a_h.toInt ≤ 23) (p2 : 0 < (sf_f w0 71 1).toInt) (hR : ∀ (r : Int32), (-1) ≤ r.toInt → r.toInt ≤ 7 → rt (some (.inl (.int r))) w0) : ks_M_quotaOf [.inl (.ref 71), .inl (.int a_h), .inl (.int a_land), .inl (.int a_when)] w0 rt xt := by
  have hl : ∀ n : Nat, (∀ (x4 : Int32) (x5 : Int32), ((-1) ≤ x4.toInt) → (x4.toInt ≤ 7) → ((-1) ≤ x5.toInt) → (x5.toInt ≤ 7) → (x5.toInt + 1 < (n : Int)) → ku_M_quotaOf rt xt n 11 [(0, .inl (.ref 71)), (1, .inl (.int a_h)), (2, .inl (.int a_land)), (3, .inl (.int a_when)), (4, .inl (.int x4)), (5, .inl (.int x5))] [] w0 0 0) := by
    intro n
    induction n with
    | zero =>
      refine ?_
      · intros; omega
    | succ n ih =>
      have i_11 := ih
      intro x4 x5 l_x4 u_x4 l_x5 u_x5 hm
      show kh_M_quotaOf_11 rt xt (ku_M_quotaOf rt xt n) [(0, .inl (.ref 71)), (1, .inl (.int a_h)), (2, .inl (.int a_land)), (3, .inl (.int a_when)), (4, .inl (.int x4)), (5, .inl (.int x5))] [] w0 0 0
      generalize ku_M_quotaOf rt xt n = K at i_11 ⊢
      refine sf_iload rfl ?_
      refine sf_f1_lt (fun h1 => ?_) (fun h1 => ?_)
      · refine sf_iload rfl ?_
        refine sf_ireturn rfl rfl ?_
        exact hR _ (by omega) (by omega) 
      · refine sf_aload rfl ?_
        refine sf_iload rfl ?_
        refine sf_aload rfl ?_
        refine sf_getr hI0 rfl rfl ?_
        refine sf_iload rfl ?_
        refine sf_iald hI0 rfl (by omega) (fun v2 lv2 uv2 ev2 => ?_)
        clear lv2 uv2
        clear ev2
        refine sf_call3 rfl rfl rfl ?_
        refine sf_rv hI0 rfl ?_
        refine sc_M_isUnder hI0 (by omega) (by omega) (by omega) (fun v3 lv3 uv3 => ?_)
        refine sf_f1_eq (fun h5 => ?_) (fun h5 => ?_)
        · refine sf_iload rfl ?_
          refine sf_istore (L' := [(0, .inl (.ref 71)), (1, .inl (.int a_h)), (2, .inl (.int a_land)), (3, .inl (.int a_when)), (5, .inl (.int x5))]) rfl ?_
          refine sf_iinc (L' := [(4, .inl (.int x4)), (0, .inl (.ref 71)), (1, .inl (.int a_h)), (2, .inl (.int a_land)), (3, .inl (.int a_when))]) sf_cm1 rfl rfl (by omega) (fun v6 ev6 => ?_)
          refine sf_can (L' := [(0, .inl (.ref 71)), (1, .inl (.int a_h)), (2, .inl (.int a_land)), (3, .inl (.int a_when)), (4, .inl (.int x4)), (5, .inl (.int v6))]) rfl ?_
          exact i_11 x4 v6 (by omega) (by omega) (by omega) (by omega) (by omega)
        · refine sf_aload rfl ?_
          refine sf_getr hI0 rfl rfl ?_
          refine sf_iload rfl ?_
          refine sf_iald hI0 rfl (by omega) (fun v7 lv7 uv7 ev7 => ?_)
          clear lv7 uv7
          clear ev7
          refine sf_iload rfl ?_
          refine sf_f2_eq (fun h8 => ?_) (fun h8 => ?_)
          · refine sf_iload rfl ?_
            refine sf_aload rfl ?_
            refine sf_getr hI0 rfl rfl ?_
            refine sf_iload rfl ?_
            refine sf_iald hI0 rfl (by omega) (fun v9 lv9 uv9 ev9 => ?_)
            clear lv9 uv9
            clear ev9
            refine sf_f2_lt (fun h10 => ?_) (fun h10 => ?_)
            · refine sf_iload rfl ?_
              refine sf_istore (L' := [(0, .inl (.ref 71)), (1, .inl (.int a_h)), (2, .inl (.int a_land)), (3, .inl (.int a_when)), (5, .inl (.int x5))]) rfl ?_
              refine sf_iinc (L' := [(4, .inl (.int x4)), (0, .inl (.ref 71)), (1, .inl (.int a_h)), (2, .inl (.int a_land)), (3, .inl (.int a_when))]) sf_cm1 rfl rfl (by omega) (fun v11 ev11 => ?_)
              refine sf_can (L' := [(0, .inl (.ref 71)), (1, .inl (.int a_h)), (2, .inl (.int a_land)), (3, .inl (.int a_when)), (4, .inl (.int x4)), (5, .inl (.int v11))]) rfl ?_
              exact i_11 x4 v11 (by omega) (by omega) (by omega) (by omega) (by omega)
            · refine sf_iload rfl ?_
              refine sf_aload rfl ?_
              refine sf_getr hI0 rfl rfl ?_
              refine sf_iload rfl ?_
              refine sf_iald hI0 rfl (by omega) (fun v12 lv12 uv12 ev12 => ?_)
              clear lv12 uv12
              clear ev12
              refine sf_f2_gt (fun h13 => ?_) (fun h13 => ?_)
              · refine sf_iload rfl ?_
                refine sf_istore (L' := [(0, .inl (.ref 71)), (1, .inl (.int a_h)), (2, .inl (.int a_land)), (3, .inl (.int a_when)), (5, .inl (.int x5))]) rfl ?_
                refine sf_iinc (L' := [(4, .inl (.int x4)), (0, .inl (.ref 71)), (1, .inl (.int a_h)), (2, .inl (.int a_land)), (3, .inl (.int a_when))]) sf_cm1 rfl rfl (by omega) (fun v14 ev14 => ?_)
                refine sf_can (L' := [(0, .inl (.ref 71)), (1, .inl (.int a_h)), (2, .inl (.int a_land)), (3, .inl (.int a_when)), (4, .inl (.int x4)), (5, .inl (.int v14))]) rfl ?_
                exact i_11 x4 v14 (by omega) (by omega) (by omega) (by omega) (by omega)
              · refine sf_iload rfl ?_
                refine sf_istore (L' := [(0, .inl (.ref 71)), (1, .inl (.int a_h)), (2, .inl (.int a_land)), (3, .inl (.int a_when)), (5, .inl (.int x5))]) rfl ?_
                refine sf_iinc (L' := [(4, .inl (.int x5)), (0, .inl (.ref 71)), (1, .inl (.int a_h)), (2, .inl (.int a_land)), (3, .inl (.int a_when))]) sf_cm1 rfl rfl (by omega) (fun v15 ev15 => ?_)
                refine sf_can (L' := [(0, .inl (.ref 71)), (1, .inl (.int a_h)), (2, .inl (.int a_land)), (3, .inl (.int a_when)), (4, .inl (.int x5)), (5, .inl (.int v15))]) rfl ?_
                exact i_11 x5 v15 (by omega) (by omega) (by omega) (by omega) (by omega)
          · refine sf_iload rfl ?_
            refine sf_istore (L' := [(0, .inl (.ref 71)), (1, .inl (.int a_h)), (2, .inl (.int a_land)), (3, .inl (.int a_when)), (5, .inl (.int x5))]) rfl ?_
            refine sf_iinc (L' := [(4, .inl (.int x4)), (0, .inl (.ref 71)), (1, .inl (.int a_h)), (2, .inl (.int a_land)), (3, .inl (.int a_when))]) sf_cm1 rfl rfl (by omega) (fun v16 ev16 => ?_)
            refine sf_can (L' := [(0, .inl (.ref 71)), (1, .inl (.int a_h)), (2, .inl (.int a_land)), (3, .inl (.int a_when)), (4, .inl (.int x4)), (5, .inl (.int v16))]) rfl ?_
            exact i_11 x4 v16 (by omega) (by omega) (by omega) (by omega) (by omega)
  have hl1 := hl 1000000000000
  have i_11 := hl1
  clear hl hl1
  refine sf_sp (L := [(0, .inl (.ref 71)), (1, .inl (.int a_h)), (2, .inl (.int a_land)), (3, .inl (.int a_when))]) rfl rfl ?_
  generalize ku_M_quotaOf rt xt 1000000000000 = K at i_11 ⊢
  refine sf_iconst sf_cm1 (fun z17 ez17 => ?_)
  refine sf_istore (L' := [(0, .inl (.ref 71)), (1, .inl (.int a_h)), (2, .inl (.int a_land)), (3, .inl (.int a_when))]) rfl ?_
  refine sf_aload rfl ?_
  refine sf_geti hI0 rfl rfl (fun v18 lv18 uv18 ev18 => ?_)
  refine sf_iconst sf_c1 (fun z19 ez19 => ?_)
  refine sf_isub (by omega) (fun v20 ev20 => ?_)
  refine sf_istore (L' := [(4, .inl (.int z17)), (0, .inl (.ref 71)), (1, .inl (.int a_h)), (2, .inl (.int a_land)), (3, .inl (.int a_when))]) rfl ?_
  refine sf_can (L' := [(0, .inl (.ref 71)), (1, .inl (.int a_h)), (2, .inl (.int a_land)), (3, .inl (.int a_when)), (4, .inl (.int z17)), (5, .inl (.int v20))]) rfl ?_
  exact i_11 z17 v20 (by omega) (by omega) (by omega) (by omega) (by omega)
def sm_M_reaches : List Nat := [100]
set_option maxRecDepth 100000 in
set_option maxHeartbeats 4000000 in
theorem sc_M_reaches {w0 : wq_W} (hI0 : sf_I w0) {rt : Option wq_V → wq_W → Prop} {xt : Nat → wq_W → Prop} {a_good : Int32} {a_other : Int32} (p0 : 0 ≤ a_other.toInt) (p1 : a_other.toInt ≤ 15) (hR : ∀ (r : Int32) (w : wq_W), sf_I w → sf_m sm_M_reaches w0 w → 0 ≤ r.toInt → r.toInt ≤ 1 → rt (some (.inl (.int r))) w) : ks_M_reaches [.inl (.ref 71), .inl (.int a_good), .inl (.int a_other)] w0 rt xt := by
  have hs0 : sf_m sm_M_reaches w0 w0 := sf_m0
  have hl : ∀ n : Nat, (∀ (w : wq_W) (x3 : Int32), (sf_I w) → (sf_m sm_M_reaches w0 w) → (0 ≤ x3.toInt) → (x3.toInt ≤ 16) → (10000 - x3.toInt < (n : Int)) → ku_M_reaches rt xt n 2 [(0, .inl (.ref 71)), (1, .inl (.int a_good)), (2, .inl (.int a_other)), (3, .inl (.int x3))] [] w 0 0) ∧ (∀ (w : wq_W) (x3 : Int32), (sf_I w) → (sf_m sm_M_reaches w0 w) → (0 ≤ x3.toInt) → (x3.toInt ≤ 16) → ((16 - x3.toInt) * 400 + 399 < (n : Int)) → ku_M_reaches rt xt n 32 [(0, .inl (.ref 71)), (2, .inl (.int a_other)), (3, .inl (.int x3))] [] w 0 0) ∧ (∀ (w : wq_W) (x3 : Int32) (x4 : Int32), (sf_I w) → (sf_m sm_M_reaches w0 w) → (0 ≤ x3.toInt) → (x3.toInt ≤ 15) → (0 ≤ x4.toInt) → (x4.toInt ≤ 16) → ((16 - x3.toInt) * 400 + (16 - x4.toInt) * 10 + 6 < (n : Int)) → ku_M_reaches rt xt n 41 [(0, .inl (.ref 71)), (2, .inl (.int a_other)), (3, .inl (.int x3)), (4, .inl (.int x4))] [] w 0 0) ∧ (∀ (w : wq_W) (x3 : Int32) (x4 : Int32) (x5 : Int32), (sf_I w) → (sf_m sm_M_reaches w0 w) → (0 ≤ x3.toInt) → (x3.toInt ≤ 15) → (0 ≤ x4.toInt) → (x4.toInt ≤ 15) → (0 ≤ x5.toInt) → (x5.toInt ≤ 5) → ((16 - x3.toInt) * 400 + (16 - x4.toInt) * 10 + 5 - x5.toInt < (n : Int)) → ku_M_reaches rt xt n 51 [(0, .inl (.ref 71)), (2, .inl (.int a_other)), (3, .inl (.int x3)), (4, .inl (.int x4)), (5, .inl (.int x5))] [] w 0 0) := by
    intro n
    induction n with
    | zero =>
      refine ⟨?_, ?_, ?_, ?_⟩
      · intros; omega
      · intros; omega
      · intros; omega
      · intros; omega
    | succ n ih =>
      obtain ⟨i_2, i_32, i_41, i_51⟩ := ih
      refine ⟨?_, ?_, ?_, ?_⟩
      · intro w x3 I_w s_w l_x3 u_x3 hm
        show kh_M_reaches_2 rt xt (ku_M_reaches rt xt n) [(0, .inl (.ref 71)), (1, .inl (.int a_good)), (2, .inl (.int a_other)), (3, .inl (.int x3))] [] w 0 0
        generalize ku_M_reaches rt xt n = K at i_2 i_32 i_41 i_51 ⊢
        refine sf_iload rfl ?_
        refine sf_iconst sf_c16 (fun z1 ez1 => ?_)
        refine sf_f2_ge (fun h2 => ?_) (fun h2 => ?_)
        · refine sf_iconst sf_c0 (fun z3 ez3 => ?_)
          refine sf_istore (L' := [(0, .inl (.ref 71)), (1, .inl (.int a_good)), (2, .inl (.int a_other))]) rfl ?_
          refine sf_can (L' := [(0, .inl (.ref 71)), (2, .inl (.int a_other)), (3, .inl (.int z3))]) rfl ?_
          exact i_32 w z3 I_w s_w (by omega) (by omega) (by omega)
        · refine sf_aload rfl ?_
          refine sf_getr I_w rfl rfl ?_
          refine sf_iload rfl ?_
          refine sf_iload rfl ?_
          refine sf_iload rfl ?_
          refine sf_f2_eq (fun h4 => ?_) (fun h4 => ?_)
          · refine sf_iconst sf_c1 (fun z5 ez5 => ?_)
            refine sf_zast I_w s_w rfl (by omega) (by omega) rfl rfl (fun w6 Iw6 sw6 kw6 uw6 => ?_)
            clear kw6 uw6
            refine sf_iinc (L' := [(0, .inl (.ref 71)), (1, .inl (.int a_good)), (2, .inl (.int a_other))]) sf_c1 rfl rfl (by omega) (fun v7 ev7 => ?_)
            refine sf_can (L' := [(0, .inl (.ref 71)), (1, .inl (.int a_good)), (2, .inl (.int a_other)), (3, .inl (.int v7))]) rfl ?_
            exact i_2 w6 v7 Iw6 sw6 (by omega) (by omega) (by omega)
          · refine sf_iconst sf_c0 (fun z8 ez8 => ?_)
            refine sf_zast I_w s_w rfl (by omega) (by omega) rfl rfl (fun w9 Iw9 sw9 kw9 uw9 => ?_)
            clear kw9 uw9
            refine sf_iinc (L' := [(0, .inl (.ref 71)), (1, .inl (.int a_good)), (2, .inl (.int a_other))]) sf_c1 rfl rfl (by omega) (fun v10 ev10 => ?_)
            refine sf_can (L' := [(0, .inl (.ref 71)), (1, .inl (.int a_good)), (2, .inl (.int a_other)), (3, .inl (.int v10))]) rfl ?_
            exact i_2 w9 v10 Iw9 sw9 (by omega) (by omega) (by omega)
      · intro w x3 I_w s_w l_x3 u_x3 hm
        show kh_M_reaches_32 rt xt (ku_M_reaches rt xt n) [(0, .inl (.ref 71)), (2, .inl (.int a_other)), (3, .inl (.int x3))] [] w 0 0
        generalize ku_M_reaches rt xt n = K at i_2 i_32 i_41 i_51 ⊢
        refine sf_iload rfl ?_
        refine sf_iconst sf_c16 (fun z11 ez11 => ?_)
        refine sf_f2_ge (fun h12 => ?_) (fun h12 => ?_)
        · refine sf_aload rfl ?_
          refine sf_getr I_w rfl rfl ?_
          refine sf_iload rfl ?_
          refine sf_zald I_w rfl (by omega) (fun v13 lv13 uv13 ev13 => ?_)
          clear ev13
          refine sf_zreturn (by omega) rfl rfl ?_
          exact hR _ _ I_w s_w (by omega) (by omega) 
        · refine sf_iconst sf_c0 (fun z14 ez14 => ?_)
          refine sf_istore (L' := [(0, .inl (.ref 71)), (2, .inl (.int a_other)), (3, .inl (.int x3))]) rfl ?_
          refine sf_can (L' := [(0, .inl (.ref 71)), (2, .inl (.int a_other)), (3, .inl (.int x3)), (4, .inl (.int z14))]) rfl ?_
          exact i_41 w x3 z14 I_w s_w (by omega) (by omega) (by omega) (by omega) (by omega)
      · intro w x3 x4 I_w s_w l_x3 u_x3 l_x4 u_x4 hm
        show kh_M_reaches_41 rt xt (ku_M_reaches rt xt n) [(0, .inl (.ref 71)), (2, .inl (.int a_other)), (3, .inl (.int x3)), (4, .inl (.int x4))] [] w 0 0
        generalize ku_M_reaches rt xt n = K at i_2 i_32 i_41 i_51 ⊢
        refine sf_iload rfl ?_
        refine sf_iconst sf_c16 (fun z15 ez15 => ?_)
        refine sf_f2_ge (fun h16 => ?_) (fun h16 => ?_)
        · refine sf_iinc (L' := [(0, .inl (.ref 71)), (2, .inl (.int a_other)), (4, .inl (.int x4))]) sf_c1 rfl rfl (by omega) (fun v17 ev17 => ?_)
          refine sf_can (L' := [(0, .inl (.ref 71)), (2, .inl (.int a_other)), (3, .inl (.int v17))]) rfl ?_
          exact i_32 w v17 I_w s_w (by omega) (by omega) (by omega)
        · refine sf_iconst sf_c0 (fun z18 ez18 => ?_)
          refine sf_istore (L' := [(0, .inl (.ref 71)), (2, .inl (.int a_other)), (3, .inl (.int x3)), (4, .inl (.int x4))]) rfl ?_
          refine sf_can (L' := [(0, .inl (.ref 71)), (2, .inl (.int a_other)), (3, .inl (.int x3)), (4, .inl (.int x4)), (5, .inl (.int z18))]) rfl ?_
          exact i_51 w x3 x4 z18 I_w s_w (by omega) (by omega) (by omega) (by omega) (by omega) (by omega) (by omega)
      · intro w x3 x4 x5 I_w s_w l_x3 u_x3 l_x4 u_x4 l_x5 u_x5 hm
        show kh_M_reaches_51 rt xt (ku_M_reaches rt xt n) [(0, .inl (.ref 71)), (2, .inl (.int a_other)), (3, .inl (.int x3)), (4, .inl (.int x4)), (5, .inl (.int x5))] [] w 0 0
        generalize ku_M_reaches rt xt n = K at i_2 i_32 i_41 i_51 ⊢
        refine sf_iload rfl ?_
        refine sf_aload rfl ?_
        refine sf_getr I_w rfl rfl ?_
        refine sf_iload rfl ?_
        refine sf_iald I_w rfl (by omega) (fun v19 lv19 uv19 ev19 => ?_)
        rw [sf_ma s_w (p := 94) rfl] at ev19
        refine sf_f2_ge (fun h20 => ?_) (fun h20 => ?_)
        · refine sf_iinc (L' := [(0, .inl (.ref 71)), (2, .inl (.int a_other)), (3, .inl (.int x3)), (5, .inl (.int x5))]) sf_c1 rfl rfl (by omega) (fun v21 ev21 => ?_)
          refine sf_can (L' := [(0, .inl (.ref 71)), (2, .inl (.int a_other)), (3, .inl (.int x3)), (4, .inl (.int v21))]) rfl ?_
          exact i_41 w x3 v21 I_w s_w (by omega) (by omega) (by omega) (by omega) (by omega)
        · refine sf_aload rfl ?_
          refine sf_getr I_w rfl rfl ?_
          refine sf_iload rfl ?_
          refine sf_zald I_w rfl (by omega) (fun v22 lv22 uv22 ev22 => ?_)
          clear ev22
          refine sf_f1_eq (fun h23 => ?_) (fun h23 => ?_)
          · refine sf_iinc (L' := [(0, .inl (.ref 71)), (2, .inl (.int a_other)), (3, .inl (.int x3)), (5, .inl (.int x5))]) sf_c1 rfl rfl (by omega) (fun v24 ev24 => ?_)
            refine sf_can (L' := [(0, .inl (.ref 71)), (2, .inl (.int a_other)), (3, .inl (.int x3)), (4, .inl (.int v24))]) rfl ?_
            exact i_41 w x3 v24 I_w s_w (by omega) (by omega) (by omega) (by omega) (by omega)
          · refine sf_aload rfl ?_
            refine sf_getr I_w rfl rfl ?_
            refine sf_aload rfl ?_
            refine sf_getr I_w rfl rfl ?_
            refine sf_iconst sf_c5 (fun z25 ez25 => ?_)
            refine sf_iload rfl ?_
            refine sf_imull (n := 5) (by omega) (by omega) (fun v26 ev26 => ?_)
            refine sf_iload rfl ?_
            refine sf_iadd (by omega) (fun v27 ev27 => ?_)
            refine sf_iald I_w rfl (by omega) (fun v28 lv28 uv28 ev28 => ?_)
            clear ev28
            refine sf_iconst sf_c1 (fun z29 ez29 => ?_)
            refine sf_zast I_w s_w rfl (by omega) (by omega) rfl rfl (fun w30 Iw30 sw30 kw30 uw30 => ?_)
            clear kw30 uw30
            refine sf_iinc (L' := [(0, .inl (.ref 71)), (2, .inl (.int a_other)), (3, .inl (.int x3)), (4, .inl (.int x4))]) sf_c1 rfl rfl (by omega) (fun v31 ev31 => ?_)
            refine sf_can (L' := [(0, .inl (.ref 71)), (2, .inl (.int a_other)), (3, .inl (.int x3)), (4, .inl (.int x4)), (5, .inl (.int v31))]) rfl ?_
            exact i_51 w30 x3 x4 v31 Iw30 sw30 (by omega) (by omega) (by omega) (by omega) (by omega) (by omega) (by omega)
  have hl1 := hl 1000000000000
  obtain ⟨i_2, i_32, i_41, i_51⟩ := hl1
  clear hl
  refine sf_sp (L := [(0, .inl (.ref 71)), (1, .inl (.int a_good)), (2, .inl (.int a_other))]) rfl rfl ?_
  generalize ku_M_reaches rt xt 1000000000000 = K at i_2 i_32 i_41 i_51 ⊢
  refine sf_iconst sf_c0 (fun z32 ez32 => ?_)
  refine sf_istore (L' := [(0, .inl (.ref 71)), (1, .inl (.int a_good)), (2, .inl (.int a_other))]) rfl ?_
  refine sf_can (L' := [(0, .inl (.ref 71)), (1, .inl (.int a_good)), (2, .inl (.int a_other)), (3, .inl (.int z32))]) rfl ?_
  exact i_2 w0 z32 hI0 hs0 (by omega) (by omega) (by omega)
def sm_M_isMade : List Nat := []
set_option maxRecDepth 100000 in
set_option maxHeartbeats 4000000 in
theorem sc_M_isMade {w0 : wq_W} (hI0 : sf_I w0) {rt : Option wq_V → wq_W → Prop} {xt : Nat → wq_W → Prop} {a_good : Int32} {a_lands : Int32} (p0 : 0 ≤ a_good.toInt) (p1 : a_good.toInt ≤ 15) (hR : ∀ (r : Int32), 0 ≤ r.toInt → r.toInt ≤ 1 → rt (some (.inl (.int r))) w0) : ks_M_isMade [.inl (.ref 71), .inl (.int a_good), .inl (.int a_lands)] w0 rt xt := by
  have hl : ∀ n : Nat, (∀ (x3 : Int32), ((-1) ≤ x3.toInt) → (x3.toInt ≤ 23) → (200 + x3.toInt < (n : Int)) → ku_M_isMade rt xt n 7 [(0, .inl (.ref 71)), (1, .inl (.int a_good)), (2, .inl (.int a_lands)), (3, .inl (.int x3))] [] w0 0 0) ∧ (∀ (x3 : Int32) (x4 : Int64) (x6 : Int64) (x8 : Int32) (x9 : Int32), (0 ≤ x3.toInt) → (x3.toInt ≤ 23) → (0 ≤ x8.toInt) → (x8.toInt ≤ 1) → (0 ≤ x9.toInt) → (x9.toInt ≤ 80) → (80 - x9.toInt < (n : Int)) → ku_M_isMade rt xt n 59 [(0, .inl (.ref 71)), (1, .inl (.int a_good)), (2, .inl (.int a_lands)), (3, .inl (.int x3)), (4, .inl (.long x4)), (6, .inl (.long x6)), (8, .inl (.int x8)), (9, .inl (.int x9))] [] w0 0 0) := by
    intro n
    induction n with
    | zero =>
      refine ⟨?_, ?_⟩
      · intros; omega
      · intros; omega
    | succ n ih =>
      obtain ⟨i_7, i_59⟩ := ih
      refine ⟨?_, ?_⟩
      · intro x3 l_x3 u_x3 hm
        show kh_M_isMade_7 rt xt (ku_M_isMade rt xt n) [(0, .inl (.ref 71)), (1, .inl (.int a_good)), (2, .inl (.int a_lands)), (3, .inl (.int x3))] [] w0 0 0
        generalize ku_M_isMade rt xt n = K at i_7 i_59 ⊢
        refine sf_iload rfl ?_
        refine sf_f1_lt (fun h1 => ?_) (fun h1 => ?_)
        · refine sf_iload rfl ?_
          refine sf_f1_lt (fun h2 => ?_) (fun h2 => absurd h2 (by omega))
          refine sf_iconst sf_c0 (fun z3 ez3 => ?_)
          refine sf_zreturn (by omega) rfl rfl ?_
          exact hR _ (by omega) (by omega) 
        · refine sf_aload rfl ?_
          refine sf_getr hI0 rfl rfl ?_
          refine sf_iload rfl ?_
          refine sf_iald hI0 rfl (by omega) (fun v4 lv4 uv4 ev4 => ?_)
          refine sf_f1_ge (fun h5 => ?_) (fun h5 => ?_)
          · refine sf_iload rfl ?_
            refine sf_f1_lt (fun h6 => absurd h6 (by omega)) (fun h6 => ?_)
            refine sf_aload rfl ?_
            refine sf_getr hI0 rfl rfl ?_
            refine sf_iload rfl ?_
            refine sf_iald hI0 rfl (by omega) (fun v7 lv7 uv7 ev7 => ?_)
            refine sf_f1_eq (fun h8 => ?_) (fun h8 => ?_)
            · refine sf_iconst sf_c0 (fun z9 ez9 => ?_)
              refine sf_zreturn (by omega) rfl rfl ?_
              exact hR _ (by omega) (by omega) 
            · refine sf_lconst (by decide : (0 : Int64).toInt = 0) (fun z10 ez10 => ?_)
              refine sf_lstore (L' := [(0, .inl (.ref 71)), (1, .inl (.int a_good)), (2, .inl (.int a_lands)), (3, .inl (.int x3))]) rfl ?_
              refine sf_lconst (by decide : (0 : Int64).toInt = 0) (fun z11 ez11 => ?_)
              refine sf_lstore (L' := [(4, .inl (.long z10)), (0, .inl (.ref 71)), (1, .inl (.int a_good)), (2, .inl (.int a_lands)), (3, .inl (.int x3))]) rfl ?_
              refine sf_iconst sf_c1 (fun z12 ez12 => ?_)
              refine sf_istore (L' := [(6, .inl (.long z11)), (4, .inl (.long z10)), (0, .inl (.ref 71)), (1, .inl (.int a_good)), (2, .inl (.int a_lands)), (3, .inl (.int x3))]) rfl ?_
              refine sf_iconst sf_c5 (fun z13 ez13 => ?_)
              refine sf_iload rfl ?_
              refine sf_imull (n := 5) (by omega) (by omega) (fun v14 ev14 => ?_)
              refine sf_istore (L' := [(8, .inl (.int z12)), (6, .inl (.long z11)), (4, .inl (.long z10)), (0, .inl (.ref 71)), (1, .inl (.int a_good)), (2, .inl (.int a_lands)), (3, .inl (.int x3))]) rfl ?_
              refine sf_can (L' := [(0, .inl (.ref 71)), (1, .inl (.int a_good)), (2, .inl (.int a_lands)), (3, .inl (.int x3)), (4, .inl (.long z10)), (6, .inl (.long z11)), (8, .inl (.int z12)), (9, .inl (.int v14))]) rfl ?_
              exact i_59 x3 z10 z11 z12 v14 (by omega) (by omega) (by omega) (by omega) (by omega) (by omega) (by omega)
          · refine sf_aload rfl ?_
            refine sf_getr hI0 rfl rfl ?_
            refine sf_iload rfl ?_
            refine sf_iald hI0 rfl (by omega) (fun v15 lv15 uv15 ev15 => ?_)
            have r1 := sf_R1q hI0 (i := x3) (by omega) (by omega)
            refine sf_istore (L' := [(0, .inl (.ref 71)), (1, .inl (.int a_good)), (2, .inl (.int a_lands))]) rfl ?_
            refine sf_can (L' := [(0, .inl (.ref 71)), (1, .inl (.int a_good)), (2, .inl (.int a_lands)), (3, .inl (.int v15))]) rfl ?_
            exact i_7 v15 (by omega) (by omega) (by omega)
      · intro x3 x4 x6 x8 x9 l_x3 u_x3 l_x8 u_x8 l_x9 u_x9 hm
        show kh_M_isMade_59 rt xt (ku_M_isMade rt xt n) [(0, .inl (.ref 71)), (1, .inl (.int a_good)), (2, .inl (.int a_lands)), (3, .inl (.int x3)), (4, .inl (.long x4)), (6, .inl (.long x6)), (8, .inl (.int x8)), (9, .inl (.int x9))] [] w0 0 0
        generalize ku_M_isMade rt xt n = K at i_7 i_59 ⊢
        refine sf_iload rfl ?_
        refine sf_iconst sf_c5 (fun z16 ez16 => ?_)
        refine sf_iload rfl ?_
        refine sf_imull (n := 5) (by omega) (by omega) (fun v17 ev17 => ?_)
        refine sf_aload rfl ?_
        refine sf_getr hI0 rfl rfl ?_
        refine sf_iload rfl ?_
        refine sf_iald hI0 rfl (by omega) (fun v18 lv18 uv18 ev18 => ?_)
        refine sf_iadd (by omega) (fun v19 ev19 => ?_)
        refine sf_f2_ge (fun h20 => ?_) (fun h20 => ?_)
        · refine sf_aload rfl ?_
          refine sf_getr hI0 rfl rfl ?_
          refine sf_iload rfl ?_
          refine sf_iald hI0 rfl (by omega) (fun v21 lv21 uv21 ev21 => ?_)
          refine sf_f1_eq (fun h22 => ?_) (fun h22 => ?_)
          · refine sf_iload rfl ?_
            refine sf_zreturn (by omega) rfl rfl ?_
            exact hR _ (by omega) (by omega) 
          · refine sf_lconst (by decide : (1000 : Int64).toInt = 1000) (fun z23 ez23 => ?_)
            refine sf_lload rfl ?_
            refine sf_l2 (fun v24 => ?_)
            refine sf_aload rfl ?_
            refine sf_getr hI0 rfl rfl ?_
            refine sf_iload rfl ?_
            refine sf_iald hI0 rfl (by omega) (fun v25 lv25 uv25 ev25 => ?_)
            clear lv25 uv25
            clear ev25
            refine sf_i2lb (fun v26 ev26 lv26 uv26 => ?_)
            refine sf_lload rfl ?_
            refine sf_l2 (fun v27 => ?_)
            refine sf_fl_gt (fun h28 => ?_) (fun h28 => ?_)
            · refine sf_iconst sf_c0 (fun z29 ez29 => ?_)
              refine sf_zreturn (by omega) rfl rfl ?_
              exact hR _ (by omega) (by omega) 
            · refine sf_iconst sf_c1 (fun z30 ez30 => ?_)
              refine sf_zreturn (by omega) rfl rfl ?_
              exact hR _ (by omega) (by omega) 
        · refine sf_aload rfl ?_
          refine sf_getr hI0 rfl rfl ?_
          refine sf_iload rfl ?_
          refine sf_iald hI0 rfl (by omega) (fun v31 lv31 uv31 ev31 => ?_)
          clear ev31
          refine sf_istore (L' := [(0, .inl (.ref 71)), (1, .inl (.int a_good)), (2, .inl (.int a_lands)), (3, .inl (.int x3)), (4, .inl (.long x4)), (6, .inl (.long x6)), (8, .inl (.int x8)), (9, .inl (.int x9))]) rfl ?_
          refine sf_iload rfl ?_
          refine sf_aload rfl ?_
          refine sf_getr hI0 rfl rfl ?_
          refine sf_iload rfl ?_
          refine sf_iald hI0 rfl (by omega) (fun v32 lv32 uv32 ev32 => ?_)
          clear lv32 uv32
          clear ev32
          refine sf_i2 (fun v33 => ?_)
          refine sf_iconst sf_c1 (fun z34 ez34 => ?_)
          refine sf_iand (n := 1) (by omega) (by decide) (fun v35 lv35 uv35 => ?_)
          refine sf_f1_eq (fun h36 => ?_) (fun h36 => ?_)
          · refine sf_iconst sf_c1 (fun z37 ez37 => ?_)
            refine sf_istore (L' := [(10, .inl (.int v31)), (0, .inl (.ref 71)), (1, .inl (.int a_good)), (2, .inl (.int a_lands)), (3, .inl (.int x3)), (4, .inl (.long x4)), (6, .inl (.long x6)), (8, .inl (.int x8)), (9, .inl (.int x9))]) rfl ?_
            refine sf_lload rfl ?_
            refine sf_aload rfl ?_
            refine sf_getr hI0 rfl rfl ?_
            refine sf_iload rfl ?_
            refine sf_iald hI0 rfl (by omega) (fun v38 lv38 uv38 ev38 => ?_)
            clear lv38 uv38
            clear ev38
            refine sf_i2lb (fun v39 ev39 lv39 uv39 => ?_)
            refine sf_l2 (fun v40 => ?_)
            refine sf_lstore (L' := [(11, .inl (.int z37)), (10, .inl (.int v31)), (0, .inl (.ref 71)), (1, .inl (.int a_good)), (2, .inl (.int a_lands)), (3, .inl (.int x3)), (4, .inl (.long x4)), (8, .inl (.int x8)), (9, .inl (.int x9))]) rfl ?_
            refine sf_iload rfl ?_
            refine sf_f1_eq (fun h41 => absurd h41 (by omega)) (fun h41 => ?_)
            refine sf_lload rfl ?_
            refine sf_aload rfl ?_
            refine sf_getr hI0 rfl rfl ?_
            refine sf_iload rfl ?_
            refine sf_iald hI0 rfl (by omega) (fun v42 lv42 uv42 ev42 => ?_)
            clear lv42 uv42
            clear ev42
            refine sf_i2lb (fun v43 ev43 lv43 uv43 => ?_)
            refine sf_l2 (fun v44 => ?_)
            refine sf_lstore (L' := [(6, .inl (.long v40)), (11, .inl (.int z37)), (10, .inl (.int v31)), (0, .inl (.ref 71)), (1, .inl (.int a_good)), (2, .inl (.int a_lands)), (3, .inl (.int x3)), (8, .inl (.int x8)), (9, .inl (.int x9))]) rfl ?_
            refine sf_iload rfl ?_
            refine sf_f1_eq (fun h45 => ?_) (fun h45 => ?_)
            · refine sf_iconst sf_c0 (fun z46 ez46 => ?_)
              refine sf_istore (L' := [(4, .inl (.long v44)), (6, .inl (.long v40)), (11, .inl (.int z37)), (10, .inl (.int v31)), (0, .inl (.ref 71)), (1, .inl (.int a_good)), (2, .inl (.int a_lands)), (3, .inl (.int x3)), (9, .inl (.int x9))]) rfl ?_
              refine sf_iinc (L' := [(8, .inl (.int z46)), (4, .inl (.long v44)), (6, .inl (.long v40)), (11, .inl (.int z37)), (10, .inl (.int v31)), (0, .inl (.ref 71)), (1, .inl (.int a_good)), (2, .inl (.int a_lands)), (3, .inl (.int x3))]) sf_c1 rfl rfl (by omega) (fun v47 ev47 => ?_)
              refine sf_can (L' := [(0, .inl (.ref 71)), (1, .inl (.int a_good)), (2, .inl (.int a_lands)), (3, .inl (.int x3)), (4, .inl (.long v44)), (6, .inl (.long v40)), (8, .inl (.int z46)), (9, .inl (.int v47))]) rfl ?_
              exact i_59 x3 v44 v40 z46 v47 (by omega) (by omega) (by omega) (by omega) (by omega) (by omega) (by omega)
            · refine sf_iload rfl ?_
              refine sf_f1_eq (fun h48 => absurd h48 (by omega)) (fun h48 => ?_)
              refine sf_aload rfl ?_
              refine sf_getr hI0 rfl rfl ?_
              refine sf_iload rfl ?_
              refine sf_iald hI0 rfl (by omega) (fun v49 lv49 uv49 ev49 => ?_)
              clear ev49
              refine sf_aload rfl ?_
              refine sf_getr hI0 rfl rfl ?_
              refine sf_iload rfl ?_
              refine sf_iald hI0 rfl (by omega) (fun v50 lv50 uv50 ev50 => ?_)
              clear ev50
              refine sf_f2_eq (fun h51 => ?_) (fun h51 => ?_)
              · refine sf_iconst sf_c0 (fun z52 ez52 => ?_)
                refine sf_istore (L' := [(4, .inl (.long v44)), (6, .inl (.long v40)), (11, .inl (.int z37)), (10, .inl (.int v31)), (0, .inl (.ref 71)), (1, .inl (.int a_good)), (2, .inl (.int a_lands)), (3, .inl (.int x3)), (9, .inl (.int x9))]) rfl ?_
                refine sf_iinc (L' := [(8, .inl (.int z52)), (4, .inl (.long v44)), (6, .inl (.long v40)), (11, .inl (.int z37)), (10, .inl (.int v31)), (0, .inl (.ref 71)), (1, .inl (.int a_good)), (2, .inl (.int a_lands)), (3, .inl (.int x3))]) sf_c1 rfl rfl (by omega) (fun v53 ev53 => ?_)
                refine sf_can (L' := [(0, .inl (.ref 71)), (1, .inl (.int a_good)), (2, .inl (.int a_lands)), (3, .inl (.int x3)), (4, .inl (.long v44)), (6, .inl (.long v40)), (8, .inl (.int z52)), (9, .inl (.int v53))]) rfl ?_
                exact i_59 x3 v44 v40 z52 v53 (by omega) (by omega) (by omega) (by omega) (by omega) (by omega) (by omega)
              · refine sf_iconst sf_c1 (fun z54 ez54 => ?_)
                refine sf_istore (L' := [(4, .inl (.long v44)), (6, .inl (.long v40)), (11, .inl (.int z37)), (10, .inl (.int v31)), (0, .inl (.ref 71)), (1, .inl (.int a_good)), (2, .inl (.int a_lands)), (3, .inl (.int x3)), (9, .inl (.int x9))]) rfl ?_
                refine sf_iinc (L' := [(8, .inl (.int z54)), (4, .inl (.long v44)), (6, .inl (.long v40)), (11, .inl (.int z37)), (10, .inl (.int v31)), (0, .inl (.ref 71)), (1, .inl (.int a_good)), (2, .inl (.int a_lands)), (3, .inl (.int x3))]) sf_c1 rfl rfl (by omega) (fun v55 ev55 => ?_)
                refine sf_can (L' := [(0, .inl (.ref 71)), (1, .inl (.int a_good)), (2, .inl (.int a_lands)), (3, .inl (.int x3)), (4, .inl (.long v44)), (6, .inl (.long v40)), (8, .inl (.int z54)), (9, .inl (.int v55))]) rfl ?_
                exact i_59 x3 v44 v40 z54 v55 (by omega) (by omega) (by omega) (by omega) (by omega) (by omega) (by omega)
          · refine sf_aload rfl ?_
            refine sf_getr hI0 rfl rfl ?_
            refine sf_iload rfl ?_
            refine sf_iald hI0 rfl (by omega) (fun v56 lv56 uv56 ev56 => ?_)
            refine sf_f1_le (fun h57 => ?_) (fun h57 => ?_)
            · refine sf_iconst sf_c0 (fun z58 ez58 => ?_)
              refine sf_istore (L' := [(10, .inl (.int v31)), (0, .inl (.ref 71)), (1, .inl (.int a_good)), (2, .inl (.int a_lands)), (3, .inl (.int x3)), (4, .inl (.long x4)), (6, .inl (.long x6)), (8, .inl (.int x8)), (9, .inl (.int x9))]) rfl ?_
              refine sf_lload rfl ?_
              refine sf_aload rfl ?_
              refine sf_getr hI0 rfl rfl ?_
              refine sf_iload rfl ?_
              refine sf_iald hI0 rfl (by omega) (fun v59 lv59 uv59 ev59 => ?_)
              clear lv59 uv59
              clear ev59
              refine sf_i2lb (fun v60 ev60 lv60 uv60 => ?_)
              refine sf_l2 (fun v61 => ?_)
              refine sf_lstore (L' := [(11, .inl (.int z58)), (10, .inl (.int v31)), (0, .inl (.ref 71)), (1, .inl (.int a_good)), (2, .inl (.int a_lands)), (3, .inl (.int x3)), (4, .inl (.long x4)), (8, .inl (.int x8)), (9, .inl (.int x9))]) rfl ?_
              refine sf_iload rfl ?_
              refine sf_f1_eq (fun h62 => ?_) (fun h62 => absurd h62 (by omega))
              refine sf_lload rfl ?_
              refine sf_lstore (L' := [(6, .inl (.long v61)), (11, .inl (.int z58)), (10, .inl (.int v31)), (0, .inl (.ref 71)), (1, .inl (.int a_good)), (2, .inl (.int a_lands)), (3, .inl (.int x3)), (8, .inl (.int x8)), (9, .inl (.int x9))]) rfl ?_
              refine sf_iload rfl ?_
              refine sf_f1_eq (fun h63 => ?_) (fun h63 => ?_)
              · refine sf_iconst sf_c0 (fun z64 ez64 => ?_)
                refine sf_istore (L' := [(4, .inl (.long x4)), (6, .inl (.long v61)), (11, .inl (.int z58)), (10, .inl (.int v31)), (0, .inl (.ref 71)), (1, .inl (.int a_good)), (2, .inl (.int a_lands)), (3, .inl (.int x3)), (9, .inl (.int x9))]) rfl ?_
                refine sf_iinc (L' := [(8, .inl (.int z64)), (4, .inl (.long x4)), (6, .inl (.long v61)), (11, .inl (.int z58)), (10, .inl (.int v31)), (0, .inl (.ref 71)), (1, .inl (.int a_good)), (2, .inl (.int a_lands)), (3, .inl (.int x3))]) sf_c1 rfl rfl (by omega) (fun v65 ev65 => ?_)
                refine sf_can (L' := [(0, .inl (.ref 71)), (1, .inl (.int a_good)), (2, .inl (.int a_lands)), (3, .inl (.int x3)), (4, .inl (.long x4)), (6, .inl (.long v61)), (8, .inl (.int z64)), (9, .inl (.int v65))]) rfl ?_
                exact i_59 x3 x4 v61 z64 v65 (by omega) (by omega) (by omega) (by omega) (by omega) (by omega) (by omega)
              · refine sf_iload rfl ?_
                refine sf_f1_eq (fun h66 => ?_) (fun h66 => absurd h66 (by omega))
                refine sf_iconst sf_c1 (fun z67 ez67 => ?_)
                refine sf_istore (L' := [(4, .inl (.long x4)), (6, .inl (.long v61)), (11, .inl (.int z58)), (10, .inl (.int v31)), (0, .inl (.ref 71)), (1, .inl (.int a_good)), (2, .inl (.int a_lands)), (3, .inl (.int x3)), (9, .inl (.int x9))]) rfl ?_
                refine sf_iinc (L' := [(8, .inl (.int z67)), (4, .inl (.long x4)), (6, .inl (.long v61)), (11, .inl (.int z58)), (10, .inl (.int v31)), (0, .inl (.ref 71)), (1, .inl (.int a_good)), (2, .inl (.int a_lands)), (3, .inl (.int x3))]) sf_c1 rfl rfl (by omega) (fun v68 ev68 => ?_)
                refine sf_can (L' := [(0, .inl (.ref 71)), (1, .inl (.int a_good)), (2, .inl (.int a_lands)), (3, .inl (.int x3)), (4, .inl (.long x4)), (6, .inl (.long v61)), (8, .inl (.int z67)), (9, .inl (.int v68))]) rfl ?_
                exact i_59 x3 x4 v61 z67 v68 (by omega) (by omega) (by omega) (by omega) (by omega) (by omega) (by omega)
            · refine sf_aload rfl ?_
              refine sf_getr hI0 rfl rfl ?_
              refine sf_iload rfl ?_
              refine sf_zald hI0 rfl (by omega) (fun v69 lv69 uv69 ev69 => ?_)
              clear ev69
              refine sf_f1_eq (fun h70 => ?_) (fun h70 => ?_)
              · refine sf_iconst sf_c1 (fun z71 ez71 => ?_)
                refine sf_istore (L' := [(10, .inl (.int v31)), (0, .inl (.ref 71)), (1, .inl (.int a_good)), (2, .inl (.int a_lands)), (3, .inl (.int x3)), (4, .inl (.long x4)), (6, .inl (.long x6)), (8, .inl (.int x8)), (9, .inl (.int x9))]) rfl ?_
                refine sf_lload rfl ?_
                refine sf_aload rfl ?_
                refine sf_getr hI0 rfl rfl ?_
                refine sf_iload rfl ?_
                refine sf_iald hI0 rfl (by omega) (fun v72 lv72 uv72 ev72 => ?_)
                clear lv72 uv72
                clear ev72
                refine sf_i2lb (fun v73 ev73 lv73 uv73 => ?_)
                refine sf_l2 (fun v74 => ?_)
                refine sf_lstore (L' := [(11, .inl (.int z71)), (10, .inl (.int v31)), (0, .inl (.ref 71)), (1, .inl (.int a_good)), (2, .inl (.int a_lands)), (3, .inl (.int x3)), (4, .inl (.long x4)), (8, .inl (.int x8)), (9, .inl (.int x9))]) rfl ?_
                refine sf_iload rfl ?_
                refine sf_f1_eq (fun h75 => absurd h75 (by omega)) (fun h75 => ?_)
                refine sf_lload rfl ?_
                refine sf_aload rfl ?_
                refine sf_getr hI0 rfl rfl ?_
                refine sf_iload rfl ?_
                refine sf_iald hI0 rfl (by omega) (fun v76 lv76 uv76 ev76 => ?_)
                clear lv76 uv76
                clear ev76
                refine sf_i2lb (fun v77 ev77 lv77 uv77 => ?_)
                refine sf_l2 (fun v78 => ?_)
                refine sf_lstore (L' := [(6, .inl (.long v74)), (11, .inl (.int z71)), (10, .inl (.int v31)), (0, .inl (.ref 71)), (1, .inl (.int a_good)), (2, .inl (.int a_lands)), (3, .inl (.int x3)), (8, .inl (.int x8)), (9, .inl (.int x9))]) rfl ?_
                refine sf_iload rfl ?_
                refine sf_f1_eq (fun h79 => ?_) (fun h79 => ?_)
                · refine sf_iconst sf_c0 (fun z80 ez80 => ?_)
                  refine sf_istore (L' := [(4, .inl (.long v78)), (6, .inl (.long v74)), (11, .inl (.int z71)), (10, .inl (.int v31)), (0, .inl (.ref 71)), (1, .inl (.int a_good)), (2, .inl (.int a_lands)), (3, .inl (.int x3)), (9, .inl (.int x9))]) rfl ?_
                  refine sf_iinc (L' := [(8, .inl (.int z80)), (4, .inl (.long v78)), (6, .inl (.long v74)), (11, .inl (.int z71)), (10, .inl (.int v31)), (0, .inl (.ref 71)), (1, .inl (.int a_good)), (2, .inl (.int a_lands)), (3, .inl (.int x3))]) sf_c1 rfl rfl (by omega) (fun v81 ev81 => ?_)
                  refine sf_can (L' := [(0, .inl (.ref 71)), (1, .inl (.int a_good)), (2, .inl (.int a_lands)), (3, .inl (.int x3)), (4, .inl (.long v78)), (6, .inl (.long v74)), (8, .inl (.int z80)), (9, .inl (.int v81))]) rfl ?_
                  exact i_59 x3 v78 v74 z80 v81 (by omega) (by omega) (by omega) (by omega) (by omega) (by omega) (by omega)
                · refine sf_iload rfl ?_
                  refine sf_f1_eq (fun h82 => absurd h82 (by omega)) (fun h82 => ?_)
                  refine sf_aload rfl ?_
                  refine sf_getr hI0 rfl rfl ?_
                  refine sf_iload rfl ?_
                  refine sf_iald hI0 rfl (by omega) (fun v83 lv83 uv83 ev83 => ?_)
                  clear ev83
                  refine sf_aload rfl ?_
                  refine sf_getr hI0 rfl rfl ?_
                  refine sf_iload rfl ?_
                  refine sf_iald hI0 rfl (by omega) (fun v84 lv84 uv84 ev84 => ?_)
                  clear ev84
                  refine sf_f2_eq (fun h85 => ?_) (fun h85 => ?_)
                  · refine sf_iconst sf_c0 (fun z86 ez86 => ?_)
                    refine sf_istore (L' := [(4, .inl (.long v78)), (6, .inl (.long v74)), (11, .inl (.int z71)), (10, .inl (.int v31)), (0, .inl (.ref 71)), (1, .inl (.int a_good)), (2, .inl (.int a_lands)), (3, .inl (.int x3)), (9, .inl (.int x9))]) rfl ?_
                    refine sf_iinc (L' := [(8, .inl (.int z86)), (4, .inl (.long v78)), (6, .inl (.long v74)), (11, .inl (.int z71)), (10, .inl (.int v31)), (0, .inl (.ref 71)), (1, .inl (.int a_good)), (2, .inl (.int a_lands)), (3, .inl (.int x3))]) sf_c1 rfl rfl (by omega) (fun v87 ev87 => ?_)
                    refine sf_can (L' := [(0, .inl (.ref 71)), (1, .inl (.int a_good)), (2, .inl (.int a_lands)), (3, .inl (.int x3)), (4, .inl (.long v78)), (6, .inl (.long v74)), (8, .inl (.int z86)), (9, .inl (.int v87))]) rfl ?_
                    exact i_59 x3 v78 v74 z86 v87 (by omega) (by omega) (by omega) (by omega) (by omega) (by omega) (by omega)
                  · refine sf_iconst sf_c1 (fun z88 ez88 => ?_)
                    refine sf_istore (L' := [(4, .inl (.long v78)), (6, .inl (.long v74)), (11, .inl (.int z71)), (10, .inl (.int v31)), (0, .inl (.ref 71)), (1, .inl (.int a_good)), (2, .inl (.int a_lands)), (3, .inl (.int x3)), (9, .inl (.int x9))]) rfl ?_
                    refine sf_iinc (L' := [(8, .inl (.int z88)), (4, .inl (.long v78)), (6, .inl (.long v74)), (11, .inl (.int z71)), (10, .inl (.int v31)), (0, .inl (.ref 71)), (1, .inl (.int a_good)), (2, .inl (.int a_lands)), (3, .inl (.int x3))]) sf_c1 rfl rfl (by omega) (fun v89 ev89 => ?_)
                    refine sf_can (L' := [(0, .inl (.ref 71)), (1, .inl (.int a_good)), (2, .inl (.int a_lands)), (3, .inl (.int x3)), (4, .inl (.long v78)), (6, .inl (.long v74)), (8, .inl (.int z88)), (9, .inl (.int v89))]) rfl ?_
                    exact i_59 x3 v78 v74 z88 v89 (by omega) (by omega) (by omega) (by omega) (by omega) (by omega) (by omega)
              · refine sf_iconst sf_c0 (fun z90 ez90 => ?_)
                refine sf_istore (L' := [(10, .inl (.int v31)), (0, .inl (.ref 71)), (1, .inl (.int a_good)), (2, .inl (.int a_lands)), (3, .inl (.int x3)), (4, .inl (.long x4)), (6, .inl (.long x6)), (8, .inl (.int x8)), (9, .inl (.int x9))]) rfl ?_
                refine sf_lload rfl ?_
                refine sf_aload rfl ?_
                refine sf_getr hI0 rfl rfl ?_
                refine sf_iload rfl ?_
                refine sf_iald hI0 rfl (by omega) (fun v91 lv91 uv91 ev91 => ?_)
                clear lv91 uv91
                clear ev91
                refine sf_i2lb (fun v92 ev92 lv92 uv92 => ?_)
                refine sf_l2 (fun v93 => ?_)
                refine sf_lstore (L' := [(11, .inl (.int z90)), (10, .inl (.int v31)), (0, .inl (.ref 71)), (1, .inl (.int a_good)), (2, .inl (.int a_lands)), (3, .inl (.int x3)), (4, .inl (.long x4)), (8, .inl (.int x8)), (9, .inl (.int x9))]) rfl ?_
                refine sf_iload rfl ?_
                refine sf_f1_eq (fun h94 => ?_) (fun h94 => absurd h94 (by omega))
                refine sf_lload rfl ?_
                refine sf_lstore (L' := [(6, .inl (.long v93)), (11, .inl (.int z90)), (10, .inl (.int v31)), (0, .inl (.ref 71)), (1, .inl (.int a_good)), (2, .inl (.int a_lands)), (3, .inl (.int x3)), (8, .inl (.int x8)), (9, .inl (.int x9))]) rfl ?_
                refine sf_iload rfl ?_
                refine sf_f1_eq (fun h95 => ?_) (fun h95 => ?_)
                · refine sf_iconst sf_c0 (fun z96 ez96 => ?_)
                  refine sf_istore (L' := [(4, .inl (.long x4)), (6, .inl (.long v93)), (11, .inl (.int z90)), (10, .inl (.int v31)), (0, .inl (.ref 71)), (1, .inl (.int a_good)), (2, .inl (.int a_lands)), (3, .inl (.int x3)), (9, .inl (.int x9))]) rfl ?_
                  refine sf_iinc (L' := [(8, .inl (.int z96)), (4, .inl (.long x4)), (6, .inl (.long v93)), (11, .inl (.int z90)), (10, .inl (.int v31)), (0, .inl (.ref 71)), (1, .inl (.int a_good)), (2, .inl (.int a_lands)), (3, .inl (.int x3))]) sf_c1 rfl rfl (by omega) (fun v97 ev97 => ?_)
                  refine sf_can (L' := [(0, .inl (.ref 71)), (1, .inl (.int a_good)), (2, .inl (.int a_lands)), (3, .inl (.int x3)), (4, .inl (.long x4)), (6, .inl (.long v93)), (8, .inl (.int z96)), (9, .inl (.int v97))]) rfl ?_
                  exact i_59 x3 x4 v93 z96 v97 (by omega) (by omega) (by omega) (by omega) (by omega) (by omega) (by omega)
                · refine sf_iload rfl ?_
                  refine sf_f1_eq (fun h98 => ?_) (fun h98 => absurd h98 (by omega))
                  refine sf_iconst sf_c1 (fun z99 ez99 => ?_)
                  refine sf_istore (L' := [(4, .inl (.long x4)), (6, .inl (.long v93)), (11, .inl (.int z90)), (10, .inl (.int v31)), (0, .inl (.ref 71)), (1, .inl (.int a_good)), (2, .inl (.int a_lands)), (3, .inl (.int x3)), (9, .inl (.int x9))]) rfl ?_
                  refine sf_iinc (L' := [(8, .inl (.int z99)), (4, .inl (.long x4)), (6, .inl (.long v93)), (11, .inl (.int z90)), (10, .inl (.int v31)), (0, .inl (.ref 71)), (1, .inl (.int a_good)), (2, .inl (.int a_lands)), (3, .inl (.int x3))]) sf_c1 rfl rfl (by omega) (fun v100 ev100 => ?_)
                  refine sf_can (L' := [(0, .inl (.ref 71)), (1, .inl (.int a_good)), (2, .inl (.int a_lands)), (3, .inl (.int x3)), (4, .inl (.long x4)), (6, .inl (.long v93)), (8, .inl (.int z99)), (9, .inl (.int v100))]) rfl ?_
                  exact i_59 x3 x4 v93 z99 v100 (by omega) (by omega) (by omega) (by omega) (by omega) (by omega) (by omega)
  have hl1 := hl 1000000000000
  obtain ⟨i_7, i_59⟩ := hl1
  clear hl
  refine sf_sp (L := [(0, .inl (.ref 71)), (1, .inl (.int a_good)), (2, .inl (.int a_lands))]) rfl rfl ?_
  generalize ku_M_isMade rt xt 1000000000000 = K at i_7 i_59 ⊢
  refine sf_aload rfl ?_
  refine sf_getr hI0 rfl rfl ?_
  refine sf_iload rfl ?_
  refine sf_iald hI0 rfl (by omega) (fun v101 lv101 uv101 ev101 => ?_)
  clear ev101
  refine sf_istore (L' := [(0, .inl (.ref 71)), (1, .inl (.int a_good)), (2, .inl (.int a_lands))]) rfl ?_
  refine sf_can (L' := [(0, .inl (.ref 71)), (1, .inl (.int a_good)), (2, .inl (.int a_lands)), (3, .inl (.int v101))]) rfl ?_
  exact i_7 v101 (by omega) (by omega) (by omega)
