def sm_W_release_0_130 : List Nat := [63, 67, 68, 130, 7700]
set_option maxRecDepth 100000 in
set_option maxHeartbeats 4000000 in
theorem sc_W_release_0_130 {w0 : wq_W} (hI0 : sf_I w0) {rt : Option wq_V → wq_W → Prop} {xt : Nat → wq_W → Prop} {a_l1 : Int32} {a_l2 : Int32}  (hR : ∀ (r : Int32) (w : wq_W), sf_I w → sf_m sm_W_release_0_130 w0 w → 0 ≤ r.toInt → r.toInt ≤ 2 → rt (some (.inl (.int r))) w) : ks_W_release [.inl (.ref 0), .inl (.int a_l1), .inl (.int a_l2), .inl (.ref 130)] w0 rt xt := by
  have hs0 : sf_m sm_W_release_0_130 w0 w0 := sf_m0
  refine sf_sp (L := [(0, .inl (.ref 0)), (1, .inl (.int a_l1)), (2, .inl (.int a_l2)), (3, .inl (.ref 130))]) rfl rfl ?_
  refine sf_aload rfl ?_
  refine sf_iconst sf_c0 (fun z1 ez1 => ?_)
  refine sf_aload rfl ?_
  refine sf_iload rfl ?_
  refine sf_iload rfl ?_
  refine sf_call3 rfl rfl rfl ?_
  refine sf_rv hI0 rfl ?_
  refine sf_sp (L := [(0, .inl (.ref 0)), (1, .inl (.int a_l1)), (2, .inl (.int a_l2))]) rfl rfl ?_
  refine sf_iload rfl ?_
  refine sf_call1 rfl rfl rfl ?_
  refine sf_sp (L := [(0, .inl (.int a_l1))]) rfl rfl ?_
  refine sf_iload rfl ?_
  refine sf_iconst sf_c16 (fun z2 ez2 => ?_)
  refine sf_call2 rfl rfl rfl ?_
  refine sf_sp (L := [(0, .inl (.int a_l1)), (1, .inl (.int z2))]) rfl rfl ?_
  refine sf_iconst sf_c0 (fun z3 ez3 => ?_)
  refine sf_iload rfl ?_
  refine sf_f2_gt (fun h4 => ?_) (fun h4 => ?_)
  · refine sf_iconst sf_c0 (fun z5 ez5 => ?_)
    refine sf_zreturn (by omega) rfl rfl ?_
    refine sf_zreturn (by omega) rfl rfl ?_
    refine sf_call1 rfl rfl rfl ?_
    refine sf_sp (L := [(0, .inl (.int z5))]) rfl rfl ?_
    refine sf_iload rfl ?_
    refine sf_f1_eq (fun h6 => ?_) (fun h6 => absurd h6 (by omega))
    refine sf_throw rfl rfl ?_
    refine sf_xout rfl rfl ?_
    refine sf_xhh (L' := [(0, .inl (.ref 0)), (1, .inl (.int a_l1)), (2, .inl (.int a_l2)), (3, .inl (.ref 130))]) rfl rfl ?_
    refine sf_iconst sf_c1 (fun z7 ez7 => ?_)
    refine sf_ireturn rfl rfl ?_
    exact hR _ _ hI0 hs0 (by omega) (by omega) 
  · refine sf_iload rfl ?_
    refine sf_iload rfl ?_
    refine sf_f2_ge (fun h8 => ?_) (fun h8 => ?_)
    · refine sf_iconst sf_c0 (fun z9 ez9 => ?_)
      refine sf_zreturn (by omega) rfl rfl ?_
      refine sf_zreturn (by omega) rfl rfl ?_
      refine sf_call1 rfl rfl rfl ?_
      refine sf_sp (L := [(0, .inl (.int z9))]) rfl rfl ?_
      refine sf_iload rfl ?_
      refine sf_f1_eq (fun h10 => ?_) (fun h10 => absurd h10 (by omega))
      refine sf_throw rfl rfl ?_
      refine sf_xout rfl rfl ?_
      refine sf_xhh (L' := [(0, .inl (.ref 0)), (1, .inl (.int a_l1)), (2, .inl (.int a_l2)), (3, .inl (.ref 130))]) rfl rfl ?_
      refine sf_iconst sf_c1 (fun z11 ez11 => ?_)
      refine sf_ireturn rfl rfl ?_
      exact hR _ _ hI0 hs0 (by omega) (by omega) 
    · refine sf_iconst sf_c1 (fun z12 ez12 => ?_)
      refine sf_zreturn (by omega) rfl rfl ?_
      refine sf_zreturn (by omega) rfl rfl ?_
      refine sf_call1 rfl rfl rfl ?_
      refine sf_sp (L := [(0, .inl (.int z12))]) rfl rfl ?_
      refine sf_iload rfl ?_
      refine sf_f1_eq (fun h13 => absurd h13 (by omega)) (fun h13 => ?_)
      refine sf_vreturn rfl rfl ?_
      refine sf_iload rfl ?_
      refine sf_iconst sf_c1 (fun z14 ez14 => ?_)
      refine sf_iconst sf_c1000 (fun z15 ez15 => ?_)
      refine sf_call3 rfl rfl rfl ?_
      refine sf_sp (L := [(0, .inl (.int a_l2)), (1, .inl (.int z14)), (2, .inl (.int z15))]) rfl rfl ?_
      refine sf_iload rfl ?_
      refine sf_iload rfl ?_
      refine sf_f2_gt (fun h16 => ?_) (fun h16 => ?_)
      · refine sf_iconst sf_c0 (fun z17 ez17 => ?_)
        refine sf_zreturn (by omega) rfl rfl ?_
        refine sf_call1 rfl rfl rfl ?_
        refine sf_sp (L := [(0, .inl (.int z17))]) rfl rfl ?_
        refine sf_iload rfl ?_
        refine sf_f1_eq (fun h18 => ?_) (fun h18 => absurd h18 (by omega))
        refine sf_throw rfl rfl ?_
        refine sf_xout rfl rfl ?_
        refine sf_xhh (L' := [(0, .inl (.ref 0)), (1, .inl (.int a_l1)), (2, .inl (.int a_l2)), (3, .inl (.ref 130))]) rfl rfl ?_
        refine sf_iconst sf_c1 (fun z19 ez19 => ?_)
        refine sf_ireturn rfl rfl ?_
        exact hR _ _ hI0 hs0 (by omega) (by omega) 
      · refine sf_iload rfl ?_
        refine sf_iload rfl ?_
        refine sf_f2_gt (fun h20 => ?_) (fun h20 => ?_)
        · refine sf_iconst sf_c0 (fun z21 ez21 => ?_)
          refine sf_zreturn (by omega) rfl rfl ?_
          refine sf_call1 rfl rfl rfl ?_
          refine sf_sp (L := [(0, .inl (.int z21))]) rfl rfl ?_
          refine sf_iload rfl ?_
          refine sf_f1_eq (fun h22 => ?_) (fun h22 => absurd h22 (by omega))
          refine sf_throw rfl rfl ?_
          refine sf_xout rfl rfl ?_
          refine sf_xhh (L' := [(0, .inl (.ref 0)), (1, .inl (.int a_l1)), (2, .inl (.int a_l2)), (3, .inl (.ref 130))]) rfl rfl ?_
          refine sf_iconst sf_c1 (fun z23 ez23 => ?_)
          refine sf_ireturn rfl rfl ?_
          exact hR _ _ hI0 hs0 (by omega) (by omega) 
        · refine sf_iconst sf_c1 (fun z24 ez24 => ?_)
          refine sf_zreturn (by omega) rfl rfl ?_
          refine sf_call1 rfl rfl rfl ?_
          refine sf_sp (L := [(0, .inl (.int z24))]) rfl rfl ?_
          refine sf_iload rfl ?_
          refine sf_f1_eq (fun h25 => absurd h25 (by omega)) (fun h25 => ?_)
          refine sf_vreturn rfl rfl ?_
          refine sf_aload rfl ?_
          refine sf_getr hI0 rfl rfl ?_
          refine sf_iload rfl ?_
          refine sf_iconst sf_c1 (fun z26 ez26 => ?_)
          refine sf_call3 rfl rfl rfl ?_
          refine sf_rv hI0 rfl ?_
          refine sc_L_unitsLeft hI0 (by omega) (by omega) (fun v27 => ?_)
          refine sf_iload rfl ?_
          refine sf_f2_lt (fun h29 => ?_) (fun h29 => ?_)
          · refine sf_iconst sf_c0 (fun z30 ez30 => ?_)
            refine sf_call1 rfl rfl rfl ?_
            refine sf_sp (L := [(0, .inl (.int z30))]) rfl rfl ?_
            refine sf_iload rfl ?_
            refine sf_f1_eq (fun h31 => ?_) (fun h31 => absurd h31 (by omega))
            refine sf_throw rfl rfl ?_
            refine sf_xout rfl rfl ?_
            refine sf_xhm rfl ?_
            refine sf_xhh (L' := [(0, .inl (.ref 0)), (1, .inl (.int a_l1)), (2, .inl (.int a_l2)), (3, .inl (.ref 130))]) rfl rfl ?_
            refine sf_iconst sf_c2 (fun z32 ez32 => ?_)
            refine sf_ireturn rfl rfl ?_
            exact hR _ _ hI0 hs0 (by omega) (by omega) 
          · refine sf_iconst sf_c1 (fun z33 ez33 => ?_)
            refine sf_call1 rfl rfl rfl ?_
            refine sf_sp (L := [(0, .inl (.int z33))]) rfl rfl ?_
            refine sf_iload rfl ?_
            refine sf_f1_eq (fun h34 => absurd h34 (by omega)) (fun h34 => ?_)
            refine sf_vreturn rfl rfl ?_
            refine sf_aload rfl ?_
            refine sf_getr hI0 rfl rfl ?_
            refine sf_iload rfl ?_
            refine sf_iload rfl ?_
            refine sf_iconst sf_c1 (fun z35 ez35 => ?_)
            refine sf_call4 rfl rfl rfl ?_
            refine sf_rv hI0 rfl ?_
            refine sc_L_takeUnits hI0 (by omega) (by omega) (fun v36 w37 Iw37 tw37 => ?_)
            have s39 := sf_mt hs0 tw37 rfl
            refine sf_lstore (L' := [(0, .inl (.ref 0)), (1, .inl (.int a_l1)), (2, .inl (.int a_l2))]) rfl ?_
            refine sf_aload rfl ?_
            refine sf_getr Iw37 rfl rfl ?_
            refine sf_dup rfl ?_
            refine sf_getl Iw37 rfl rfl (fun v40 => ?_)
            refine sf_lload rfl ?_
            refine sf_l2 (fun v41 => ?_)
            refine sf_putl Iw37 s39 rfl rfl rfl rfl rfl (fun w42 Iw42 sw42 kw42 uw42 => ?_)
            clear kw42 uw42
            refine sf_aload rfl ?_
            refine sf_getr Iw42 rfl rfl ?_
            refine sf_getr Iw42 rfl rfl ?_
            refine sf_iload rfl ?_
            refine sf_dup2 rfl rfl ?_
            refine sf_iald Iw42 rfl (by omega) (fun v43 lv43 uv43 ev43 => ?_)
            clear lv43 uv43
            clear ev43
            refine sf_iload rfl ?_
            refine sf_i2 (fun v44 => ?_)
            refine sf_iast Iw42 sw42 rfl (by omega) (sf_bd _) rfl rfl (fun w45 Iw45 sw45 kw45 uw45 => ?_)
            clear kw45 uw45
            refine sf_lload rfl ?_
            refine sf_lreturn rfl rfl ?_
            refine sf_last Iw45 sw45 rfl (by omega) rfl rfl (fun w46 Iw46 sw46 kw46 uw46 => ?_)
            clear kw46 uw46
            refine sf_iconst sf_c0 (fun z47 ez47 => ?_)
            refine sf_ireturn rfl rfl ?_
            exact hR _ _ Iw46 sw46 (by omega) (by omega) 
def sm_W_export_0_130 : List Nat := [63, 67, 130, 7701]
set_option maxRecDepth 100000 in
set_option maxHeartbeats 4000000 in
theorem sc_W_export_0_130 {w0 : wq_W} (hI0 : sf_I w0) {rt : Option wq_V → wq_W → Prop} {xt : Nat → wq_W → Prop} {a_l1 : Int32} {a_l2 : Int32}  (hR : ∀ (r : Int32) (w : wq_W), sf_I w → sf_m sm_W_export_0_130 w0 w → 0 ≤ r.toInt → r.toInt ≤ 2 → rt (some (.inl (.int r))) w) : ks_W_export [.inl (.ref 0), .inl (.int a_l1), .inl (.int a_l2), .inl (.ref 130)] w0 rt xt := by
  have hs0 : sf_m sm_W_export_0_130 w0 w0 := sf_m0
  refine sf_sp (L := [(0, .inl (.ref 0)), (1, .inl (.int a_l1)), (2, .inl (.int a_l2)), (3, .inl (.ref 130))]) rfl rfl ?_
  refine sf_aload rfl ?_
  refine sf_iconst sf_c0 (fun z1 ez1 => ?_)
  refine sf_aload rfl ?_
  refine sf_iload rfl ?_
  refine sf_iload rfl ?_
  refine sf_call3 rfl rfl rfl ?_
  refine sf_rv hI0 rfl ?_
  refine sf_sp (L := [(0, .inl (.ref 0)), (1, .inl (.int a_l1)), (2, .inl (.int a_l2))]) rfl rfl ?_
  refine sf_iload rfl ?_
  refine sf_call1 rfl rfl rfl ?_
  refine sf_sp (L := [(0, .inl (.int a_l1))]) rfl rfl ?_
  refine sf_iload rfl ?_
  refine sf_iconst sf_c16 (fun z2 ez2 => ?_)
  refine sf_call2 rfl rfl rfl ?_
  refine sf_sp (L := [(0, .inl (.int a_l1)), (1, .inl (.int z2))]) rfl rfl ?_
  refine sf_iconst sf_c0 (fun z3 ez3 => ?_)
  refine sf_iload rfl ?_
  refine sf_f2_gt (fun h4 => ?_) (fun h4 => ?_)
  · refine sf_iconst sf_c0 (fun z5 ez5 => ?_)
    refine sf_zreturn (by omega) rfl rfl ?_
    refine sf_zreturn (by omega) rfl rfl ?_
    refine sf_call1 rfl rfl rfl ?_
    refine sf_sp (L := [(0, .inl (.int z5))]) rfl rfl ?_
    refine sf_iload rfl ?_
    refine sf_f1_eq (fun h6 => ?_) (fun h6 => absurd h6 (by omega))
    refine sf_throw rfl rfl ?_
    refine sf_xout rfl rfl ?_
    refine sf_xhh (L' := [(0, .inl (.ref 0)), (1, .inl (.int a_l1)), (2, .inl (.int a_l2)), (3, .inl (.ref 130))]) rfl rfl ?_
    refine sf_iconst sf_c1 (fun z7 ez7 => ?_)
    refine sf_ireturn rfl rfl ?_
    exact hR _ _ hI0 hs0 (by omega) (by omega) 
  · refine sf_iload rfl ?_
    refine sf_iload rfl ?_
    refine sf_f2_ge (fun h8 => ?_) (fun h8 => ?_)
    · refine sf_iconst sf_c0 (fun z9 ez9 => ?_)
      refine sf_zreturn (by omega) rfl rfl ?_
      refine sf_zreturn (by omega) rfl rfl ?_
      refine sf_call1 rfl rfl rfl ?_
      refine sf_sp (L := [(0, .inl (.int z9))]) rfl rfl ?_
      refine sf_iload rfl ?_
      refine sf_f1_eq (fun h10 => ?_) (fun h10 => absurd h10 (by omega))
      refine sf_throw rfl rfl ?_
      refine sf_xout rfl rfl ?_
      refine sf_xhh (L' := [(0, .inl (.ref 0)), (1, .inl (.int a_l1)), (2, .inl (.int a_l2)), (3, .inl (.ref 130))]) rfl rfl ?_
      refine sf_iconst sf_c1 (fun z11 ez11 => ?_)
      refine sf_ireturn rfl rfl ?_
      exact hR _ _ hI0 hs0 (by omega) (by omega) 
    · refine sf_iconst sf_c1 (fun z12 ez12 => ?_)
      refine sf_zreturn (by omega) rfl rfl ?_
      refine sf_zreturn (by omega) rfl rfl ?_
      refine sf_call1 rfl rfl rfl ?_
      refine sf_sp (L := [(0, .inl (.int z12))]) rfl rfl ?_
      refine sf_iload rfl ?_
      refine sf_f1_eq (fun h13 => absurd h13 (by omega)) (fun h13 => ?_)
      refine sf_vreturn rfl rfl ?_
      refine sf_iload rfl ?_
      refine sf_iconst sf_c1 (fun z14 ez14 => ?_)
      refine sf_iconst sf_c1000 (fun z15 ez15 => ?_)
      refine sf_call3 rfl rfl rfl ?_
      refine sf_sp (L := [(0, .inl (.int a_l2)), (1, .inl (.int z14)), (2, .inl (.int z15))]) rfl rfl ?_
      refine sf_iload rfl ?_
      refine sf_iload rfl ?_
      refine sf_f2_gt (fun h16 => ?_) (fun h16 => ?_)
      · refine sf_iconst sf_c0 (fun z17 ez17 => ?_)
        refine sf_zreturn (by omega) rfl rfl ?_
        refine sf_call1 rfl rfl rfl ?_
        refine sf_sp (L := [(0, .inl (.int z17))]) rfl rfl ?_
        refine sf_iload rfl ?_
        refine sf_f1_eq (fun h18 => ?_) (fun h18 => absurd h18 (by omega))
        refine sf_throw rfl rfl ?_
        refine sf_xout rfl rfl ?_
        refine sf_xhh (L' := [(0, .inl (.ref 0)), (1, .inl (.int a_l1)), (2, .inl (.int a_l2)), (3, .inl (.ref 130))]) rfl rfl ?_
        refine sf_iconst sf_c1 (fun z19 ez19 => ?_)
        refine sf_ireturn rfl rfl ?_
        exact hR _ _ hI0 hs0 (by omega) (by omega) 
      · refine sf_iload rfl ?_
        refine sf_iload rfl ?_
        refine sf_f2_gt (fun h20 => ?_) (fun h20 => ?_)
        · refine sf_iconst sf_c0 (fun z21 ez21 => ?_)
          refine sf_zreturn (by omega) rfl rfl ?_
          refine sf_call1 rfl rfl rfl ?_
          refine sf_sp (L := [(0, .inl (.int z21))]) rfl rfl ?_
          refine sf_iload rfl ?_
          refine sf_f1_eq (fun h22 => ?_) (fun h22 => absurd h22 (by omega))
          refine sf_throw rfl rfl ?_
          refine sf_xout rfl rfl ?_
          refine sf_xhh (L' := [(0, .inl (.ref 0)), (1, .inl (.int a_l1)), (2, .inl (.int a_l2)), (3, .inl (.ref 130))]) rfl rfl ?_
          refine sf_iconst sf_c1 (fun z23 ez23 => ?_)
          refine sf_ireturn rfl rfl ?_
          exact hR _ _ hI0 hs0 (by omega) (by omega) 
        · refine sf_iconst sf_c1 (fun z24 ez24 => ?_)
          refine sf_zreturn (by omega) rfl rfl ?_
          refine sf_call1 rfl rfl rfl ?_
          refine sf_sp (L := [(0, .inl (.int z24))]) rfl rfl ?_
          refine sf_iload rfl ?_
          refine sf_f1_eq (fun h25 => absurd h25 (by omega)) (fun h25 => ?_)
          refine sf_vreturn rfl rfl ?_
          refine sf_aload rfl ?_
          refine sf_getr hI0 rfl rfl ?_
          refine sf_iload rfl ?_
          refine sf_iconst sf_c0 (fun z26 ez26 => ?_)
          refine sf_call3 rfl rfl rfl ?_
          refine sf_rv hI0 rfl ?_
          refine sc_L_unitsLeft hI0 (by omega) (by omega) (fun v27 => ?_)
          refine sf_iload rfl ?_
          refine sf_f2_lt (fun h29 => ?_) (fun h29 => ?_)
          · refine sf_iconst sf_c0 (fun z30 ez30 => ?_)
            refine sf_call1 rfl rfl rfl ?_
            refine sf_sp (L := [(0, .inl (.int z30))]) rfl rfl ?_
            refine sf_iload rfl ?_
            refine sf_f1_eq (fun h31 => ?_) (fun h31 => absurd h31 (by omega))
            refine sf_throw rfl rfl ?_
            refine sf_xout rfl rfl ?_
            refine sf_xhm rfl ?_
            refine sf_xhh (L' := [(0, .inl (.ref 0)), (1, .inl (.int a_l1)), (2, .inl (.int a_l2)), (3, .inl (.ref 130))]) rfl rfl ?_
            refine sf_iconst sf_c2 (fun z32 ez32 => ?_)
            refine sf_ireturn rfl rfl ?_
            exact hR _ _ hI0 hs0 (by omega) (by omega) 
          · refine sf_iconst sf_c1 (fun z33 ez33 => ?_)
            refine sf_call1 rfl rfl rfl ?_
            refine sf_sp (L := [(0, .inl (.int z33))]) rfl rfl ?_
            refine sf_iload rfl ?_
            refine sf_f1_eq (fun h34 => absurd h34 (by omega)) (fun h34 => ?_)
            refine sf_vreturn rfl rfl ?_
            refine sf_aload rfl ?_
            refine sf_getr hI0 rfl rfl ?_
            refine sf_iload rfl ?_
            refine sf_iload rfl ?_
            refine sf_iconst sf_c0 (fun z35 ez35 => ?_)
            refine sf_call4 rfl rfl rfl ?_
            refine sf_rv hI0 rfl ?_
            refine sc_L_takeUnits hI0 (by omega) (by omega) (fun v36 w37 Iw37 tw37 => ?_)
            have s39 := sf_mt hs0 tw37 rfl
            refine sf_lstore (L' := [(0, .inl (.ref 0)), (1, .inl (.int a_l1)), (2, .inl (.int a_l2))]) rfl ?_
            refine sf_aload rfl ?_
            refine sf_getr Iw37 rfl rfl ?_
            refine sf_dup rfl ?_
            refine sf_getl Iw37 rfl rfl (fun v40 => ?_)
            refine sf_lload rfl ?_
            refine sf_l2 (fun v41 => ?_)
            refine sf_putl Iw37 s39 rfl rfl rfl rfl rfl (fun w42 Iw42 sw42 kw42 uw42 => ?_)
            clear kw42 uw42
            refine sf_lload rfl ?_
            refine sf_lreturn rfl rfl ?_
            refine sf_last Iw42 sw42 rfl (by omega) rfl rfl (fun w43 Iw43 sw43 kw43 uw43 => ?_)
            clear kw43 uw43
            refine sf_iconst sf_c0 (fun z44 ez44 => ?_)
            refine sf_ireturn rfl rfl ?_
            exact hR _ _ Iw43 sw43 (by omega) (by omega) 
def sm_W_work_0_130 : List Nat := [60, 61, 62, 63, 64, 65, 66, 69, 70, 130, 7000]
set_option maxRecDepth 100000 in
set_option maxHeartbeats 4000000 in
theorem sc_W_work_0_130 {w0 : wq_W} (hI0 : sf_I w0) {rt : Option wq_V → wq_W → Prop} {xt : Nat → wq_W → Prop} {a_l1 : Int32} {a_l2 : Int32} {a_l3 : Int32} {a_l4 : Int32}  (hR : ∀ (r : Int32) (w : wq_W), sf_I w → sf_m sm_W_work_0_130 w0 w → 0 ≤ r.toInt → r.toInt ≤ 3 → rt (some (.inl (.int r))) w) : ks_W_work [.inl (.ref 0), .inl (.int a_l1), .inl (.int a_l2), .inl (.int a_l3), .inl (.int a_l4), .inl (.ref 130)] w0 rt xt := by
  have hs0 : sf_m sm_W_work_0_130 w0 w0 := sf_m0
  refine sf_sp (L := [(0, .inl (.ref 0)), (1, .inl (.int a_l1)), (2, .inl (.int a_l2)), (3, .inl (.int a_l3)), (4, .inl (.int a_l4)), (5, .inl (.ref 130))]) rfl rfl ?_
  refine sf_aload rfl ?_
  refine sf_iconst sf_c0 (fun z1 ez1 => ?_)
  refine sf_aload rfl ?_
  refine sf_iload rfl ?_
  refine sf_iload rfl ?_
  refine sf_iload rfl ?_
  refine sf_iload rfl ?_
  refine sf_call5 rfl rfl rfl ?_
  refine sf_rv hI0 rfl ?_
  refine sf_sp (L := [(0, .inl (.ref 0)), (1, .inl (.int a_l1)), (2, .inl (.int a_l2)), (3, .inl (.int a_l3)), (4, .inl (.int a_l4))]) rfl rfl ?_
  refine sf_iload rfl ?_
  refine sf_call1 rfl rfl rfl ?_
  refine sf_sp (L := [(0, .inl (.int a_l1))]) rfl rfl ?_
  refine sf_iload rfl ?_
  refine sf_iconst sf_c16 (fun z2 ez2 => ?_)
  refine sf_call2 rfl rfl rfl ?_
  refine sf_sp (L := [(0, .inl (.int a_l1)), (1, .inl (.int z2))]) rfl rfl ?_
  refine sf_iconst sf_c0 (fun z3 ez3 => ?_)
  refine sf_iload rfl ?_
  refine sf_f2_gt (fun h4 => ?_) (fun h4 => ?_)
  · refine sf_iconst sf_c0 (fun z5 ez5 => ?_)
    refine sf_zreturn (by omega) rfl rfl ?_
    refine sf_zreturn (by omega) rfl rfl ?_
    refine sf_f1_eq (fun h6 => ?_) (fun h6 => absurd h6 (by omega))
    refine sf_iconst sf_c0 (fun z7 ez7 => ?_)
    refine sf_call1 rfl rfl rfl ?_
    refine sf_sp (L := [(0, .inl (.int z7))]) rfl rfl ?_
    refine sf_iload rfl ?_
    refine sf_f1_eq (fun h8 => ?_) (fun h8 => absurd h8 (by omega))
    refine sf_throw rfl rfl ?_
    refine sf_xout rfl rfl ?_
    refine sf_xhh (L' := [(0, .inl (.ref 0)), (1, .inl (.int a_l1)), (2, .inl (.int a_l2)), (3, .inl (.int a_l3)), (4, .inl (.int a_l4)), (5, .inl (.ref 130))]) rfl rfl ?_
    refine sf_iconst sf_c1 (fun z9 ez9 => ?_)
    refine sf_ireturn rfl rfl ?_
    exact hR _ _ hI0 hs0 (by omega) (by omega) 
  · refine sf_iload rfl ?_
    refine sf_iload rfl ?_
    refine sf_f2_ge (fun h10 => ?_) (fun h10 => ?_)
    · refine sf_iconst sf_c0 (fun z11 ez11 => ?_)
      refine sf_zreturn (by omega) rfl rfl ?_
      refine sf_zreturn (by omega) rfl rfl ?_
      refine sf_f1_eq (fun h12 => ?_) (fun h12 => absurd h12 (by omega))
      refine sf_iconst sf_c0 (fun z13 ez13 => ?_)
      refine sf_call1 rfl rfl rfl ?_
      refine sf_sp (L := [(0, .inl (.int z13))]) rfl rfl ?_
      refine sf_iload rfl ?_
      refine sf_f1_eq (fun h14 => ?_) (fun h14 => absurd h14 (by omega))
      refine sf_throw rfl rfl ?_
      refine sf_xout rfl rfl ?_
      refine sf_xhh (L' := [(0, .inl (.ref 0)), (1, .inl (.int a_l1)), (2, .inl (.int a_l2)), (3, .inl (.int a_l3)), (4, .inl (.int a_l4)), (5, .inl (.ref 130))]) rfl rfl ?_
      refine sf_iconst sf_c1 (fun z15 ez15 => ?_)
      refine sf_ireturn rfl rfl ?_
      exact hR _ _ hI0 hs0 (by omega) (by omega) 
    · refine sf_iconst sf_c1 (fun z16 ez16 => ?_)
      refine sf_zreturn (by omega) rfl rfl ?_
      refine sf_zreturn (by omega) rfl rfl ?_
      refine sf_f1_eq (fun h17 => absurd h17 (by omega)) (fun h17 => ?_)
      refine sf_iload rfl ?_
      refine sf_call1 rfl rfl rfl ?_
      refine sf_sp (L := [(0, .inl (.int a_l3))]) rfl rfl ?_
      refine sf_iload rfl ?_
      refine sf_iconst sf_c16 (fun z18 ez18 => ?_)
      refine sf_call2 rfl rfl rfl ?_
      refine sf_sp (L := [(0, .inl (.int a_l3)), (1, .inl (.int z18))]) rfl rfl ?_
      refine sf_iconst sf_c0 (fun z19 ez19 => ?_)
      refine sf_iload rfl ?_
      refine sf_f2_gt (fun h20 => ?_) (fun h20 => ?_)
      · refine sf_iconst sf_c0 (fun z21 ez21 => ?_)
        refine sf_zreturn (by omega) rfl rfl ?_
        refine sf_zreturn (by omega) rfl rfl ?_
        refine sf_f1_eq (fun h22 => ?_) (fun h22 => absurd h22 (by omega))
        refine sf_iconst sf_c0 (fun z23 ez23 => ?_)
        refine sf_call1 rfl rfl rfl ?_
        refine sf_sp (L := [(0, .inl (.int z23))]) rfl rfl ?_
        refine sf_iload rfl ?_
        refine sf_f1_eq (fun h24 => ?_) (fun h24 => absurd h24 (by omega))
        refine sf_throw rfl rfl ?_
        refine sf_xout rfl rfl ?_
        refine sf_xhh (L' := [(0, .inl (.ref 0)), (1, .inl (.int a_l1)), (2, .inl (.int a_l2)), (3, .inl (.int a_l3)), (4, .inl (.int a_l4)), (5, .inl (.ref 130))]) rfl rfl ?_
        refine sf_iconst sf_c1 (fun z25 ez25 => ?_)
        refine sf_ireturn rfl rfl ?_
        exact hR _ _ hI0 hs0 (by omega) (by omega) 
      · refine sf_iload rfl ?_
        refine sf_iload rfl ?_
        refine sf_f2_ge (fun h26 => ?_) (fun h26 => ?_)
        · refine sf_iconst sf_c0 (fun z27 ez27 => ?_)
          refine sf_zreturn (by omega) rfl rfl ?_
          refine sf_zreturn (by omega) rfl rfl ?_
          refine sf_f1_eq (fun h28 => ?_) (fun h28 => absurd h28 (by omega))
          refine sf_iconst sf_c0 (fun z29 ez29 => ?_)
          refine sf_call1 rfl rfl rfl ?_
          refine sf_sp (L := [(0, .inl (.int z29))]) rfl rfl ?_
          refine sf_iload rfl ?_
          refine sf_f1_eq (fun h30 => ?_) (fun h30 => absurd h30 (by omega))
          refine sf_throw rfl rfl ?_
          refine sf_xout rfl rfl ?_
          refine sf_xhh (L' := [(0, .inl (.ref 0)), (1, .inl (.int a_l1)), (2, .inl (.int a_l2)), (3, .inl (.int a_l3)), (4, .inl (.int a_l4)), (5, .inl (.ref 130))]) rfl rfl ?_
          refine sf_iconst sf_c1 (fun z31 ez31 => ?_)
          refine sf_ireturn rfl rfl ?_
          exact hR _ _ hI0 hs0 (by omega) (by omega) 
        · refine sf_iconst sf_c1 (fun z32 ez32 => ?_)
          refine sf_zreturn (by omega) rfl rfl ?_
          refine sf_zreturn (by omega) rfl rfl ?_
          refine sf_f1_eq (fun h33 => absurd h33 (by omega)) (fun h33 => ?_)
          refine sf_iload rfl ?_
          refine sf_iload rfl ?_
          refine sf_f2_eq (fun h34 => ?_) (fun h34 => ?_)
          · refine sf_iconst sf_c0 (fun z35 ez35 => ?_)
            refine sf_call1 rfl rfl rfl ?_
            refine sf_sp (L := [(0, .inl (.int z35))]) rfl rfl ?_
            refine sf_iload rfl ?_
            refine sf_f1_eq (fun h36 => ?_) (fun h36 => absurd h36 (by omega))
            refine sf_throw rfl rfl ?_
            refine sf_xout rfl rfl ?_
            refine sf_xhh (L' := [(0, .inl (.ref 0)), (1, .inl (.int a_l1)), (2, .inl (.int a_l2)), (3, .inl (.int a_l3)), (4, .inl (.int a_l4)), (5, .inl (.ref 130))]) rfl rfl ?_
            refine sf_iconst sf_c1 (fun z37 ez37 => ?_)
            refine sf_ireturn rfl rfl ?_
            exact hR _ _ hI0 hs0 (by omega) (by omega) 
          · refine sf_iconst sf_c1 (fun z38 ez38 => ?_)
            refine sf_call1 rfl rfl rfl ?_
            refine sf_sp (L := [(0, .inl (.int z38))]) rfl rfl ?_
            refine sf_iload rfl ?_
            refine sf_f1_eq (fun h39 => absurd h39 (by omega)) (fun h39 => ?_)
            refine sf_vreturn rfl rfl ?_
            refine sf_iconst sf_c1 (fun z40 ez40 => ?_)
            refine sf_iload rfl ?_
            refine sf_f2_gt (fun h41 => ?_) (fun h41 => ?_)
            · refine sf_iconst sf_c0 (fun z42 ez42 => ?_)
              refine sf_call1 rfl rfl rfl ?_
              refine sf_sp (L := [(0, .inl (.int z42))]) rfl rfl ?_
              refine sf_iload rfl ?_
              refine sf_f1_eq (fun h43 => ?_) (fun h43 => absurd h43 (by omega))
              refine sf_throw rfl rfl ?_
              refine sf_xout rfl rfl ?_
              refine sf_xhh (L' := [(0, .inl (.ref 0)), (1, .inl (.int a_l1)), (2, .inl (.int a_l2)), (3, .inl (.int a_l3)), (4, .inl (.int a_l4)), (5, .inl (.ref 130))]) rfl rfl ?_
              refine sf_iconst sf_c1 (fun z44 ez44 => ?_)
              refine sf_ireturn rfl rfl ?_
              exact hR _ _ hI0 hs0 (by omega) (by omega) 
            · refine sf_iload rfl ?_
              refine sf_iload rfl ?_
              refine sf_f2_gt (fun h45 => ?_) (fun h45 => ?_)
              · refine sf_iconst sf_c0 (fun z46 ez46 => ?_)
                refine sf_call1 rfl rfl rfl ?_
                refine sf_sp (L := [(0, .inl (.int z46))]) rfl rfl ?_
                refine sf_iload rfl ?_
                refine sf_f1_eq (fun h47 => ?_) (fun h47 => absurd h47 (by omega))
                refine sf_throw rfl rfl ?_
                refine sf_xout rfl rfl ?_
                refine sf_xhh (L' := [(0, .inl (.ref 0)), (1, .inl (.int a_l1)), (2, .inl (.int a_l2)), (3, .inl (.int a_l3)), (4, .inl (.int a_l4)), (5, .inl (.ref 130))]) rfl rfl ?_
                refine sf_iconst sf_c1 (fun z48 ez48 => ?_)
                refine sf_ireturn rfl rfl ?_
                exact hR _ _ hI0 hs0 (by omega) (by omega) 
              · refine sf_iload rfl ?_
                refine sf_iconst sf_c1000 (fun z49 ez49 => ?_)
                refine sf_f2_gt (fun h50 => ?_) (fun h50 => ?_)
                · refine sf_iconst sf_c0 (fun z51 ez51 => ?_)
                  refine sf_call1 rfl rfl rfl ?_
                  refine sf_sp (L := [(0, .inl (.int z51))]) rfl rfl ?_
                  refine sf_iload rfl ?_
                  refine sf_f1_eq (fun h52 => ?_) (fun h52 => absurd h52 (by omega))
                  refine sf_throw rfl rfl ?_
                  refine sf_xout rfl rfl ?_
                  refine sf_xhh (L' := [(0, .inl (.ref 0)), (1, .inl (.int a_l1)), (2, .inl (.int a_l2)), (3, .inl (.int a_l3)), (4, .inl (.int a_l4)), (5, .inl (.ref 130))]) rfl rfl ?_
                  refine sf_iconst sf_c1 (fun z53 ez53 => ?_)
                  refine sf_ireturn rfl rfl ?_
                  exact hR _ _ hI0 hs0 (by omega) (by omega) 
                · refine sf_iconst sf_c1 (fun z54 ez54 => ?_)
                  refine sf_call1 rfl rfl rfl ?_
                  refine sf_sp (L := [(0, .inl (.int z54))]) rfl rfl ?_
                  refine sf_iload rfl ?_
                  refine sf_f1_eq (fun h55 => absurd h55 (by omega)) (fun h55 => ?_)
                  refine sf_vreturn rfl rfl ?_
                  refine sf_aload rfl ?_
                  refine sf_getr hI0 rfl rfl ?_
                  refine sf_iload rfl ?_
                  refine sf_iconst sf_c1 (fun z56 ez56 => ?_)
                  refine sf_call3 rfl rfl rfl ?_
                  refine sf_rv hI0 rfl ?_
                  refine sc_L_unitsLeft hI0 (by omega) (by omega) (fun v57 => ?_)
                  refine sf_iload rfl ?_
                  refine sf_f2_lt (fun h59 => ?_) (fun h59 => ?_)
                  · refine sf_iconst sf_c0 (fun z60 ez60 => ?_)
                    refine sf_call1 rfl rfl rfl ?_
                    refine sf_sp (L := [(0, .inl (.int z60))]) rfl rfl ?_
                    refine sf_iload rfl ?_
                    refine sf_f1_eq (fun h61 => ?_) (fun h61 => absurd h61 (by omega))
                    refine sf_throw rfl rfl ?_
                    refine sf_xout rfl rfl ?_
                    refine sf_xhm rfl ?_
                    refine sf_xhh (L' := [(0, .inl (.ref 0)), (1, .inl (.int a_l1)), (2, .inl (.int a_l2)), (3, .inl (.int a_l3)), (4, .inl (.int a_l4)), (5, .inl (.ref 130))]) rfl rfl ?_
                    refine sf_iconst sf_c2 (fun z62 ez62 => ?_)
                    refine sf_ireturn rfl rfl ?_
                    exact hR _ _ hI0 hs0 (by omega) (by omega) 
                  · refine sf_iconst sf_c1 (fun z63 ez63 => ?_)
                    refine sf_call1 rfl rfl rfl ?_
                    refine sf_sp (L := [(0, .inl (.int z63))]) rfl rfl ?_
                    refine sf_iload rfl ?_
                    refine sf_f1_eq (fun h64 => absurd h64 (by omega)) (fun h64 => ?_)
                    refine sf_vreturn rfl rfl ?_
                    refine sf_aload rfl ?_
                    refine sf_getr hI0 rfl rfl ?_
                    refine sf_geti hI0 rfl rfl (fun v65 lv65 uv65 ev65 => ?_)
                    refine sf_iconst sf_c1 (fun z66 ez66 => ?_)
                    refine sf_iadd (by omega) (fun v67 ev67 => ?_)
                    refine sf_call1 rfl rfl rfl ?_
                    refine sf_sp (L := [(0, .inl (.int v67))]) rfl rfl ?_
                    refine sf_iload rfl ?_
                    refine sf_iconst sf_c40 (fun z68 ez68 => ?_)
                    refine sf_f2_le (fun h69 => ?_) (fun h69 => ?_)
                    · refine sf_vreturn rfl rfl ?_
                      refine sf_aload rfl ?_
                      refine sf_getr hI0 rfl rfl ?_
                      refine sf_iload rfl ?_
                      refine sf_iload rfl ?_
                      refine sf_iconst sf_c1 (fun z70 ez70 => ?_)
                      refine sf_call4 rfl rfl rfl ?_
                      refine sf_rv hI0 rfl ?_
                      refine sc_L_takeUnits hI0 (by omega) (by omega) (fun v71 w72 Iw72 tw72 => ?_)
                      have s74 := sf_mt hs0 tw72 rfl
                      have c75 := sf_mf tw72 (p := 60) (j := 0) rfl
                      refine sf_lstore (L' := [(0, .inl (.ref 0)), (1, .inl (.int a_l1)), (2, .inl (.int a_l2)), (3, .inl (.int a_l3)), (4, .inl (.int a_l4))]) rfl ?_
                      refine sf_aload rfl ?_
                      refine sf_getr Iw72 rfl rfl ?_
                      refine sf_getr Iw72 rfl rfl ?_
                      refine sf_iload rfl ?_
                      refine sf_dup2 rfl rfl ?_
                      refine sf_iald Iw72 rfl (by omega) (fun v76 lv76 uv76 ev76 => ?_)
                      clear lv76 uv76
                      clear ev76
                      refine sf_iload rfl ?_
                      refine sf_i2 (fun v77 => ?_)
                      refine sf_iast Iw72 s74 rfl (by omega) (sf_bd _) rfl rfl (fun w78 Iw78 sw78 kw78 uw78 => ?_)
                      have c79 := sf_mf kw78 (p := 60) (j := 0) rfl
                      clear kw78 uw78
                      refine sf_aload rfl ?_
                      refine sf_getr Iw78 rfl rfl ?_
                      refine sf_getr Iw78 rfl rfl ?_
                      refine sf_iload rfl ?_
                      refine sf_dup2 rfl rfl ?_
                      refine sf_iald Iw78 rfl (by omega) (fun v80 lv80 uv80 ev80 => ?_)
                      clear lv80 uv80
                      clear ev80
                      refine sf_iload rfl ?_
                      refine sf_iload rfl ?_
                      refine sf_isub (by omega) (fun v81 ev81 => ?_)
                      refine sf_i2 (fun v82 => ?_)
                      refine sf_iast Iw78 sw78 rfl (by omega) (sf_bd _) rfl rfl (fun w83 Iw83 sw83 kw83 uw83 => ?_)
                      have c84 := sf_mf kw83 (p := 60) (j := 0) rfl
                      clear kw83 uw83
                      refine sf_aload rfl ?_
                      refine sf_getr Iw83 rfl rfl ?_
                      refine sf_iload rfl ?_
                      refine sf_iload rfl ?_
                      refine sf_lload rfl ?_
                      refine sf_iconst sf_c1 (fun z85 ez85 => ?_)
                      refine sf_iconst sf_c1 (fun z86 ez86 => ?_)
                      refine sf_call6 rfl rfl rfl ?_
                      refine sf_rv Iw83 rfl ?_
                      refine sc_L_add Iw83 (by omega) (by omega) (by omega) (by omega) (by rw [c84, c79, c75]; omega) (fun v87 w88 Iw88 tw88 lv87 uv87 q89_0 => ?_)
                      rw [c84, c79, c75] at q89_0
                      have s90 := sf_mt sw83 tw88 rfl
                      refine sf_ireturn rfl rfl ?_
                      refine sf_i2l (fun v91 ev91 => ?_)
                      refine sf_last Iw88 s90 rfl (by omega) rfl rfl (fun w92 Iw92 sw92 kw92 uw92 => ?_)
                      have c93 := sf_mf kw92 (p := 60) (j := 0) rfl
                      clear kw92 uw92
                      refine sf_iconst sf_c0 (fun z94 ez94 => ?_)
                      refine sf_ireturn rfl rfl ?_
                      exact hR _ _ Iw92 sw92 (by omega) (by omega) 
                    · refine sf_throw rfl rfl ?_
                      refine sf_xout rfl rfl ?_
                      refine sf_xhm rfl ?_
                      refine sf_xhm rfl ?_
                      refine sf_xhh (L' := [(0, .inl (.ref 0)), (1, .inl (.int a_l1)), (2, .inl (.int a_l2)), (3, .inl (.int a_l3)), (4, .inl (.int a_l4)), (5, .inl (.ref 130))]) rfl rfl ?_
                      refine sf_iconst sf_c3 (fun z95 ez95 => ?_)
                      refine sf_ireturn rfl rfl ?_
                      exact hR _ _ hI0 hs0 (by omega) (by omega) 
def sm_W_lot_0_130 : List Nat := [130]
set_option maxRecDepth 100000 in
set_option maxHeartbeats 4000000 in
theorem sc_W_lot_0_130 {w0 : wq_W} (hI0 : sf_I w0) {rt : Option wq_V → wq_W → Prop} {xt : Nat → wq_W → Prop} {a_l1 : Int32} {a_l2 : Int32}  (hR : ∀ (r : Int32) (w : wq_W), sf_I w → sf_m sm_W_lot_0_130 w0 w → 0 ≤ r.toInt → r.toInt ≤ 1 → rt (some (.inl (.int r))) w) : ks_W_lot [.inl (.ref 0), .inl (.int a_l1), .inl (.int a_l2), .inl (.ref 130)] w0 rt xt := by
  have hs0 : sf_m sm_W_lot_0_130 w0 w0 := sf_m0
  refine sf_sp (L := [(0, .inl (.ref 0)), (1, .inl (.int a_l1)), (2, .inl (.int a_l2)), (3, .inl (.ref 130))]) rfl rfl ?_
  refine sf_aload rfl ?_
  refine sf_iconst sf_c0 (fun z1 ez1 => ?_)
  refine sf_aload rfl ?_
  refine sf_iload rfl ?_
  refine sf_iload rfl ?_
  refine sf_call3 rfl rfl rfl ?_
  refine sf_rv hI0 rfl ?_
  refine sf_sp (L := [(0, .inl (.ref 0)), (1, .inl (.int a_l1)), (2, .inl (.int a_l2))]) rfl rfl ?_
  refine sf_iload rfl ?_
  refine sf_aload rfl ?_
  refine sf_getr hI0 rfl rfl ?_
  refine sf_geti hI0 rfl rfl (fun v2 lv2 uv2 ev2 => ?_)
  refine sf_call2 rfl rfl rfl ?_
  refine sf_sp (L := [(0, .inl (.int a_l1)), (1, .inl (.int v2))]) rfl rfl ?_
  refine sf_iconst sf_c0 (fun z3 ez3 => ?_)
  refine sf_iload rfl ?_
  refine sf_f2_gt (fun h4 => ?_) (fun h4 => ?_)
  · refine sf_iconst sf_c0 (fun z5 ez5 => ?_)
    refine sf_zreturn (by omega) rfl rfl ?_
    refine sf_call1 rfl rfl rfl ?_
    refine sf_sp (L := [(0, .inl (.int z5))]) rfl rfl ?_
    refine sf_iload rfl ?_
    refine sf_f1_eq (fun h6 => ?_) (fun h6 => absurd h6 (by omega))
    refine sf_throw rfl rfl ?_
    refine sf_xout rfl rfl ?_
    refine sf_xhh (L' := [(0, .inl (.ref 0)), (1, .inl (.int a_l1)), (2, .inl (.int a_l2)), (3, .inl (.ref 130))]) rfl rfl ?_
    refine sf_iconst sf_c1 (fun z7 ez7 => ?_)
    refine sf_ireturn rfl rfl ?_
    exact hR _ _ hI0 hs0 (by omega) (by omega) 
  · refine sf_iload rfl ?_
    refine sf_iload rfl ?_
    refine sf_f2_ge (fun h8 => ?_) (fun h8 => ?_)
    · refine sf_iconst sf_c0 (fun z9 ez9 => ?_)
      refine sf_zreturn (by omega) rfl rfl ?_
      refine sf_call1 rfl rfl rfl ?_
      refine sf_sp (L := [(0, .inl (.int z9))]) rfl rfl ?_
      refine sf_iload rfl ?_
      refine sf_f1_eq (fun h10 => ?_) (fun h10 => absurd h10 (by omega))
      refine sf_throw rfl rfl ?_
      refine sf_xout rfl rfl ?_
      refine sf_xhh (L' := [(0, .inl (.ref 0)), (1, .inl (.int a_l1)), (2, .inl (.int a_l2)), (3, .inl (.ref 130))]) rfl rfl ?_
      refine sf_iconst sf_c1 (fun z11 ez11 => ?_)
      refine sf_ireturn rfl rfl ?_
      exact hR _ _ hI0 hs0 (by omega) (by omega) 
    · refine sf_iconst sf_c1 (fun z12 ez12 => ?_)
      refine sf_zreturn (by omega) rfl rfl ?_
      refine sf_call1 rfl rfl rfl ?_
      refine sf_sp (L := [(0, .inl (.int z12))]) rfl rfl ?_
      refine sf_iload rfl ?_
      refine sf_f1_eq (fun h13 => absurd h13 (by omega)) (fun h13 => ?_)
      refine sf_vreturn rfl rfl ?_
      refine sf_iload rfl ?_
      refine sf_iconst sf_c0 (fun z14 ez14 => ?_)
      refine sf_iconst sf_c4 (fun z15 ez15 => ?_)
      refine sf_call3 rfl rfl rfl ?_
      refine sf_sp (L := [(0, .inl (.int a_l2)), (1, .inl (.int z14)), (2, .inl (.int z15))]) rfl rfl ?_
      refine sf_iload rfl ?_
      refine sf_iload rfl ?_
      refine sf_f2_gt (fun h16 => ?_) (fun h16 => ?_)
      · refine sf_iconst sf_c0 (fun z17 ez17 => ?_)
        refine sf_zreturn (by omega) rfl rfl ?_
        refine sf_call1 rfl rfl rfl ?_
        refine sf_sp (L := [(0, .inl (.int z17))]) rfl rfl ?_
        refine sf_iload rfl ?_
        refine sf_f1_eq (fun h18 => ?_) (fun h18 => absurd h18 (by omega))
        refine sf_throw rfl rfl ?_
        refine sf_xout rfl rfl ?_
        refine sf_xhh (L' := [(0, .inl (.ref 0)), (1, .inl (.int a_l1)), (2, .inl (.int a_l2)), (3, .inl (.ref 130))]) rfl rfl ?_
        refine sf_iconst sf_c1 (fun z19 ez19 => ?_)
        refine sf_ireturn rfl rfl ?_
        exact hR _ _ hI0 hs0 (by omega) (by omega) 
      · refine sf_iload rfl ?_
        refine sf_iload rfl ?_
        refine sf_f2_gt (fun h20 => ?_) (fun h20 => ?_)
        · refine sf_iconst sf_c0 (fun z21 ez21 => ?_)
          refine sf_zreturn (by omega) rfl rfl ?_
          refine sf_call1 rfl rfl rfl ?_
          refine sf_sp (L := [(0, .inl (.int z21))]) rfl rfl ?_
          refine sf_iload rfl ?_
          refine sf_f1_eq (fun h22 => ?_) (fun h22 => absurd h22 (by omega))
          refine sf_throw rfl rfl ?_
          refine sf_xout rfl rfl ?_
          refine sf_xhh (L' := [(0, .inl (.ref 0)), (1, .inl (.int a_l1)), (2, .inl (.int a_l2)), (3, .inl (.ref 130))]) rfl rfl ?_
          refine sf_iconst sf_c1 (fun z23 ez23 => ?_)
          refine sf_ireturn rfl rfl ?_
          exact hR _ _ hI0 hs0 (by omega) (by omega) 
        · refine sf_iconst sf_c1 (fun z24 ez24 => ?_)
          refine sf_zreturn (by omega) rfl rfl ?_
          refine sf_call1 rfl rfl rfl ?_
          refine sf_sp (L := [(0, .inl (.int z24))]) rfl rfl ?_
          refine sf_iload rfl ?_
          refine sf_f1_eq (fun h25 => absurd h25 (by omega)) (fun h25 => ?_)
          refine sf_vreturn rfl rfl ?_
          refine sf_iload rfl ?_
          refine sf_sw1 sf_c0 (fun h26 => ?_) (fun h26 => ?_)
          · refine sf_aload rfl ?_
            refine sf_getr hI0 rfl rfl ?_
            refine sf_getr hI0 rfl rfl ?_
            refine sf_iload rfl ?_
            refine sf_iald hI0 rfl (by omega) (fun v27 lv27 uv27 ev27 => ?_)
            clear lv27 uv27
            clear ev27
            refine sf_i2lb (fun v28 ev28 lv28 uv28 => ?_)
            refine sf_lreturn rfl rfl ?_
            refine sf_last hI0 hs0 rfl (by omega) rfl rfl (fun w29 Iw29 sw29 kw29 uw29 => ?_)
            clear kw29 uw29
            refine sf_iconst sf_c0 (fun z30 ez30 => ?_)
            refine sf_ireturn rfl rfl ?_
            exact hR _ _ Iw29 sw29 (by omega) (by omega) 
          · refine sf_sw1 sf_c1 (fun h31 => ?_) (fun h31 => ?_)
            · refine sf_aload rfl ?_
              refine sf_getr hI0 rfl rfl ?_
              refine sf_getr hI0 rfl rfl ?_
              refine sf_iload rfl ?_
              refine sf_iald hI0 rfl (by omega) (fun v32 lv32 uv32 ev32 => ?_)
              refine sf_i2lb (fun v33 ev33 lv33 uv33 => ?_)
              refine sf_lreturn rfl rfl ?_
              refine sf_last hI0 hs0 rfl (by omega) rfl rfl (fun w34 Iw34 sw34 kw34 uw34 => ?_)
              clear kw34 uw34
              refine sf_iconst sf_c0 (fun z35 ez35 => ?_)
              refine sf_ireturn rfl rfl ?_
              exact hR _ _ Iw34 sw34 (by omega) (by omega) 
            · refine sf_sw1 sf_c2 (fun h36 => ?_) (fun h36 => ?_)
              · refine sf_aload rfl ?_
                refine sf_getr hI0 rfl rfl ?_
                refine sf_getr hI0 rfl rfl ?_
                refine sf_iload rfl ?_
                refine sf_iald hI0 rfl (by omega) (fun v37 lv37 uv37 ev37 => ?_)
                clear lv37 uv37
                clear ev37
                refine sf_i2lb (fun v38 ev38 lv38 uv38 => ?_)
                refine sf_lreturn rfl rfl ?_
                refine sf_last hI0 hs0 rfl (by omega) rfl rfl (fun w39 Iw39 sw39 kw39 uw39 => ?_)
                clear kw39 uw39
                refine sf_iconst sf_c0 (fun z40 ez40 => ?_)
                refine sf_ireturn rfl rfl ?_
                exact hR _ _ Iw39 sw39 (by omega) (by omega) 
              · refine sf_sw1 sf_c3 (fun h41 => ?_) (fun h41 => ?_)
                · refine sf_aload rfl ?_
                  refine sf_getr hI0 rfl rfl ?_
                  refine sf_getr hI0 rfl rfl ?_
                  refine sf_iload rfl ?_
                  refine sf_lald hI0 rfl (by omega) (fun v42 ev42 => ?_)
                  clear ev42
                  refine sf_lreturn rfl rfl ?_
                  refine sf_last hI0 hs0 rfl (by omega) rfl rfl (fun w43 Iw43 sw43 kw43 uw43 => ?_)
                  clear kw43 uw43
                  refine sf_iconst sf_c0 (fun z44 ez44 => ?_)
                  refine sf_ireturn rfl rfl ?_
                  exact hR _ _ Iw43 sw43 (by omega) (by omega) 
                · refine sf_sw0 ?_
                  refine sf_aload rfl ?_
                  refine sf_getr hI0 rfl rfl ?_
                  refine sf_getr hI0 rfl rfl ?_
                  refine sf_iload rfl ?_
                  refine sf_zald hI0 rfl (by omega) (fun v45 lv45 uv45 ev45 => ?_)
                  clear ev45
                  refine sf_f1_eq (fun h46 => ?_) (fun h46 => ?_)
                  · refine sf_lconst (by decide : (0 : Int64).toInt = 0) (fun z47 ez47 => ?_)
                    refine sf_lreturn rfl rfl ?_
                    refine sf_last hI0 hs0 rfl (by omega) rfl rfl (fun w48 Iw48 sw48 kw48 uw48 => ?_)
                    clear kw48 uw48
                    refine sf_iconst sf_c0 (fun z49 ez49 => ?_)
                    refine sf_ireturn rfl rfl ?_
                    exact hR _ _ Iw48 sw48 (by omega) (by omega) 
                  · refine sf_lconst (by decide : (1 : Int64).toInt = 1) (fun z50 ez50 => ?_)
                    refine sf_lreturn rfl rfl ?_
                    refine sf_last hI0 hs0 rfl (by omega) rfl rfl (fun w51 Iw51 sw51 kw51 uw51 => ?_)
                    clear kw51 uw51
                    refine sf_iconst sf_c0 (fun z52 ez52 => ?_)
                    refine sf_ireturn rfl rfl ?_
                    exact hR _ _ Iw51 sw51 (by omega) (by omega) 
def sm_W_account_0_130 : List Nat := [130]
set_option maxRecDepth 100000 in
set_option maxHeartbeats 4000000 in
theorem sc_W_account_0_130 {w0 : wq_W} (hI0 : sf_I w0) {rt : Option wq_V → wq_W → Prop} {xt : Nat → wq_W → Prop} {a_l1 : Int32} {a_l2 : Int32}  (hR : ∀ (r : Int32) (w : wq_W), sf_I w → sf_m sm_W_account_0_130 w0 w → 0 ≤ r.toInt → r.toInt ≤ 1 → rt (some (.inl (.int r))) w) : ks_W_account [.inl (.ref 0), .inl (.int a_l1), .inl (.int a_l2), .inl (.ref 130)] w0 rt xt := by
  have hs0 : sf_m sm_W_account_0_130 w0 w0 := sf_m0
  refine sf_sp (L := [(0, .inl (.ref 0)), (1, .inl (.int a_l1)), (2, .inl (.int a_l2)), (3, .inl (.ref 130))]) rfl rfl ?_
  refine sf_aload rfl ?_
  refine sf_iconst sf_c0 (fun z1 ez1 => ?_)
  refine sf_aload rfl ?_
  refine sf_iload rfl ?_
  refine sf_iload rfl ?_
  refine sf_call3 rfl rfl rfl ?_
  refine sf_rv hI0 rfl ?_
  refine sf_sp (L := [(0, .inl (.ref 0)), (1, .inl (.int a_l1)), (2, .inl (.int a_l2))]) rfl rfl ?_
  refine sf_iload rfl ?_
  refine sf_call1 rfl rfl rfl ?_
  refine sf_sp (L := [(0, .inl (.int a_l1))]) rfl rfl ?_
  refine sf_iload rfl ?_
  refine sf_iconst sf_c16 (fun z2 ez2 => ?_)
  refine sf_call2 rfl rfl rfl ?_
  refine sf_sp (L := [(0, .inl (.int a_l1)), (1, .inl (.int z2))]) rfl rfl ?_
  refine sf_iconst sf_c0 (fun z3 ez3 => ?_)
  refine sf_iload rfl ?_
  refine sf_f2_gt (fun h4 => ?_) (fun h4 => ?_)
  · refine sf_iconst sf_c0 (fun z5 ez5 => ?_)
    refine sf_zreturn (by omega) rfl rfl ?_
    refine sf_zreturn (by omega) rfl rfl ?_
    refine sf_call1 rfl rfl rfl ?_
    refine sf_sp (L := [(0, .inl (.int z5))]) rfl rfl ?_
    refine sf_iload rfl ?_
    refine sf_f1_eq (fun h6 => ?_) (fun h6 => absurd h6 (by omega))
    refine sf_throw rfl rfl ?_
    refine sf_xout rfl rfl ?_
    refine sf_xhh (L' := [(0, .inl (.ref 0)), (1, .inl (.int a_l1)), (2, .inl (.int a_l2)), (3, .inl (.ref 130))]) rfl rfl ?_
    refine sf_iconst sf_c1 (fun z7 ez7 => ?_)
    refine sf_ireturn rfl rfl ?_
    exact hR _ _ hI0 hs0 (by omega) (by omega) 
  · refine sf_iload rfl ?_
    refine sf_iload rfl ?_
    refine sf_f2_ge (fun h8 => ?_) (fun h8 => ?_)
    · refine sf_iconst sf_c0 (fun z9 ez9 => ?_)
      refine sf_zreturn (by omega) rfl rfl ?_
      refine sf_zreturn (by omega) rfl rfl ?_
      refine sf_call1 rfl rfl rfl ?_
      refine sf_sp (L := [(0, .inl (.int z9))]) rfl rfl ?_
      refine sf_iload rfl ?_
      refine sf_f1_eq (fun h10 => ?_) (fun h10 => absurd h10 (by omega))
      refine sf_throw rfl rfl ?_
      refine sf_xout rfl rfl ?_
      refine sf_xhh (L' := [(0, .inl (.ref 0)), (1, .inl (.int a_l1)), (2, .inl (.int a_l2)), (3, .inl (.ref 130))]) rfl rfl ?_
      refine sf_iconst sf_c1 (fun z11 ez11 => ?_)
      refine sf_ireturn rfl rfl ?_
      exact hR _ _ hI0 hs0 (by omega) (by omega) 
    · refine sf_iconst sf_c1 (fun z12 ez12 => ?_)
      refine sf_zreturn (by omega) rfl rfl ?_
      refine sf_zreturn (by omega) rfl rfl ?_
      refine sf_call1 rfl rfl rfl ?_
      refine sf_sp (L := [(0, .inl (.int z12))]) rfl rfl ?_
      refine sf_iload rfl ?_
      refine sf_f1_eq (fun h13 => absurd h13 (by omega)) (fun h13 => ?_)
      refine sf_vreturn rfl rfl ?_
      refine sf_iload rfl ?_
      refine sf_iconst sf_c0 (fun z14 ez14 => ?_)
      refine sf_iconst sf_c5 (fun z15 ez15 => ?_)
      refine sf_call3 rfl rfl rfl ?_
      refine sf_sp (L := [(0, .inl (.int a_l2)), (1, .inl (.int z14)), (2, .inl (.int z15))]) rfl rfl ?_
      refine sf_iload rfl ?_
      refine sf_iload rfl ?_
      refine sf_f2_gt (fun h16 => ?_) (fun h16 => ?_)
      · refine sf_iconst sf_c0 (fun z17 ez17 => ?_)
        refine sf_zreturn (by omega) rfl rfl ?_
        refine sf_call1 rfl rfl rfl ?_
        refine sf_sp (L := [(0, .inl (.int z17))]) rfl rfl ?_
        refine sf_iload rfl ?_
        refine sf_f1_eq (fun h18 => ?_) (fun h18 => absurd h18 (by omega))
        refine sf_throw rfl rfl ?_
        refine sf_xout rfl rfl ?_
        refine sf_xhh (L' := [(0, .inl (.ref 0)), (1, .inl (.int a_l1)), (2, .inl (.int a_l2)), (3, .inl (.ref 130))]) rfl rfl ?_
        refine sf_iconst sf_c1 (fun z19 ez19 => ?_)
        refine sf_ireturn rfl rfl ?_
        exact hR _ _ hI0 hs0 (by omega) (by omega) 
      · refine sf_iload rfl ?_
        refine sf_iload rfl ?_
        refine sf_f2_gt (fun h20 => ?_) (fun h20 => ?_)
        · refine sf_iconst sf_c0 (fun z21 ez21 => ?_)
          refine sf_zreturn (by omega) rfl rfl ?_
          refine sf_call1 rfl rfl rfl ?_
          refine sf_sp (L := [(0, .inl (.int z21))]) rfl rfl ?_
          refine sf_iload rfl ?_
          refine sf_f1_eq (fun h22 => ?_) (fun h22 => absurd h22 (by omega))
          refine sf_throw rfl rfl ?_
          refine sf_xout rfl rfl ?_
          refine sf_xhh (L' := [(0, .inl (.ref 0)), (1, .inl (.int a_l1)), (2, .inl (.int a_l2)), (3, .inl (.ref 130))]) rfl rfl ?_
          refine sf_iconst sf_c1 (fun z23 ez23 => ?_)
          refine sf_ireturn rfl rfl ?_
          exact hR _ _ hI0 hs0 (by omega) (by omega) 
        · refine sf_iconst sf_c1 (fun z24 ez24 => ?_)
          refine sf_zreturn (by omega) rfl rfl ?_
          refine sf_call1 rfl rfl rfl ?_
          refine sf_sp (L := [(0, .inl (.int z24))]) rfl rfl ?_
          refine sf_iload rfl ?_
          refine sf_f1_eq (fun h25 => absurd h25 (by omega)) (fun h25 => ?_)
          refine sf_vreturn rfl rfl ?_
          refine sf_iload rfl ?_
          refine sf_sw1 sf_c0 (fun h26 => ?_) (fun h26 => ?_)
          · refine sf_aload rfl ?_
            refine sf_getr hI0 rfl rfl ?_
            refine sf_iload rfl ?_
            refine sf_iconst sf_c0 (fun z27 ez27 => ?_)
            refine sf_call3 rfl rfl rfl ?_
            refine sf_rv hI0 rfl ?_
            refine sc_L_heldUnitsThatCame hI0 (by omega) (by omega) (fun v28 => ?_)
            refine sf_i2lb (fun v30 ev30 lv30 uv30 => ?_)
            refine sf_lreturn rfl rfl ?_
            refine sf_last hI0 hs0 rfl (by omega) rfl rfl (fun w31 Iw31 sw31 kw31 uw31 => ?_)
            clear kw31 uw31
            refine sf_iconst sf_c0 (fun z32 ez32 => ?_)
            refine sf_ireturn rfl rfl ?_
            exact hR _ _ Iw31 sw31 (by omega) (by omega) 
          · refine sf_sw1 sf_c1 (fun h33 => ?_) (fun h33 => ?_)
            · refine sf_aload rfl ?_
              refine sf_getr hI0 rfl rfl ?_
              refine sf_iload rfl ?_
              refine sf_iconst sf_c1 (fun z34 ez34 => ?_)
              refine sf_call3 rfl rfl rfl ?_
              refine sf_rv hI0 rfl ?_
              refine sc_L_heldUnitsThatCame hI0 (by omega) (by omega) (fun v35 => ?_)
              refine sf_i2lb (fun v37 ev37 lv37 uv37 => ?_)
              refine sf_lreturn rfl rfl ?_
              refine sf_last hI0 hs0 rfl (by omega) rfl rfl (fun w38 Iw38 sw38 kw38 uw38 => ?_)
              clear kw38 uw38
              refine sf_iconst sf_c0 (fun z39 ez39 => ?_)
              refine sf_ireturn rfl rfl ?_
              exact hR _ _ Iw38 sw38 (by omega) (by omega) 
            · refine sf_sw1 sf_c2 (fun h40 => ?_) (fun h40 => ?_)
              · refine sf_aload rfl ?_
                refine sf_getr hI0 rfl rfl ?_
                refine sf_getr hI0 rfl rfl ?_
                refine sf_iload rfl ?_
                refine sf_iald hI0 rfl (by omega) (fun v41 lv41 uv41 ev41 => ?_)
                clear lv41 uv41
                clear ev41
                refine sf_i2lb (fun v42 ev42 lv42 uv42 => ?_)
                refine sf_lreturn rfl rfl ?_
                refine sf_last hI0 hs0 rfl (by omega) rfl rfl (fun w43 Iw43 sw43 kw43 uw43 => ?_)
                clear kw43 uw43
                refine sf_iconst sf_c0 (fun z44 ez44 => ?_)
                refine sf_ireturn rfl rfl ?_
                exact hR _ _ Iw43 sw43 (by omega) (by omega) 
              · refine sf_sw1 sf_c3 (fun h45 => ?_) (fun h45 => ?_)
                · refine sf_aload rfl ?_
                  refine sf_getr hI0 rfl rfl ?_
                  refine sf_getr hI0 rfl rfl ?_
                  refine sf_iload rfl ?_
                  refine sf_iald hI0 rfl (by omega) (fun v46 lv46 uv46 ev46 => ?_)
                  clear lv46 uv46
                  clear ev46
                  refine sf_i2lb (fun v47 ev47 lv47 uv47 => ?_)
                  refine sf_lreturn rfl rfl ?_
                  refine sf_last hI0 hs0 rfl (by omega) rfl rfl (fun w48 Iw48 sw48 kw48 uw48 => ?_)
                  clear kw48 uw48
                  refine sf_iconst sf_c0 (fun z49 ez49 => ?_)
                  refine sf_ireturn rfl rfl ?_
                  exact hR _ _ Iw48 sw48 (by omega) (by omega) 
                · refine sf_sw1 sf_c4 (fun h50 => ?_) (fun h50 => ?_)
                  · refine sf_aload rfl ?_
                    refine sf_getr hI0 rfl rfl ?_
                    refine sf_getr hI0 rfl rfl ?_
                    refine sf_iload rfl ?_
                    refine sf_iald hI0 rfl (by omega) (fun v51 lv51 uv51 ev51 => ?_)
                    clear lv51 uv51
                    clear ev51
                    refine sf_i2lb (fun v52 ev52 lv52 uv52 => ?_)
                    refine sf_lreturn rfl rfl ?_
                    refine sf_last hI0 hs0 rfl (by omega) rfl rfl (fun w53 Iw53 sw53 kw53 uw53 => ?_)
                    clear kw53 uw53
                    refine sf_iconst sf_c0 (fun z54 ez54 => ?_)
                    refine sf_ireturn rfl rfl ?_
                    exact hR _ _ Iw53 sw53 (by omega) (by omega) 
                  · refine sf_sw0 ?_
                    refine sf_aload rfl ?_
                    refine sf_getr hI0 rfl rfl ?_
                    refine sf_iload rfl ?_
                    refine sf_iconst sf_c1 (fun z55 ez55 => ?_)
                    refine sf_call3 rfl rfl rfl ?_
                    refine sf_rv hI0 rfl ?_
                    refine sc_L_unitsLeft hI0 (by omega) (by omega) (fun v56 => ?_)
                    refine sf_i2lb (fun v58 ev58 lv58 uv58 => ?_)
                    refine sf_lreturn rfl rfl ?_
                    refine sf_last hI0 hs0 rfl (by omega) rfl rfl (fun w59 Iw59 sw59 kw59 uw59 => ?_)
                    clear kw59 uw59
                    refine sf_iconst sf_c0 (fun z60 ez60 => ?_)
                    refine sf_ireturn rfl rfl ?_
                    exact hR _ _ Iw59 sw59 (by omega) (by omega) 
def sm_W_books_0_130 : List Nat := [130]
set_option maxRecDepth 100000 in
set_option maxHeartbeats 4000000 in
theorem sc_W_books_0_130 {w0 : wq_W} (hI0 : sf_I w0) {rt : Option wq_V → wq_W → Prop} {xt : Nat → wq_W → Prop} {a_l1 : Int32}  (hR : ∀ (r : Int32) (w : wq_W), sf_I w → sf_m sm_W_books_0_130 w0 w → 0 ≤ r.toInt → r.toInt ≤ 1 → rt (some (.inl (.int r))) w) : ks_W_books [.inl (.ref 0), .inl (.int a_l1), .inl (.ref 130)] w0 rt xt := by
  have hs0 : sf_m sm_W_books_0_130 w0 w0 := sf_m0
  refine sf_sp (L := [(0, .inl (.ref 0)), (1, .inl (.int a_l1)), (2, .inl (.ref 130))]) rfl rfl ?_
  refine sf_aload rfl ?_
  refine sf_iconst sf_c0 (fun z1 ez1 => ?_)
  refine sf_aload rfl ?_
  refine sf_iload rfl ?_
  refine sf_call2 rfl rfl rfl ?_
  refine sf_rv hI0 rfl ?_
  refine sf_sp (L := [(0, .inl (.ref 0)), (1, .inl (.int a_l1))]) rfl rfl ?_
  refine sf_iload rfl ?_
  refine sf_iconst sf_c0 (fun z2 ez2 => ?_)
  refine sf_iconst sf_c1 (fun z3 ez3 => ?_)
  refine sf_call3 rfl rfl rfl ?_
  refine sf_sp (L := [(0, .inl (.int a_l1)), (1, .inl (.int z2)), (2, .inl (.int z3))]) rfl rfl ?_
  refine sf_iload rfl ?_
  refine sf_iload rfl ?_
  refine sf_f2_gt (fun h4 => ?_) (fun h4 => ?_)
  · refine sf_iconst sf_c0 (fun z5 ez5 => ?_)
    refine sf_zreturn (by omega) rfl rfl ?_
    refine sf_call1 rfl rfl rfl ?_
    refine sf_sp (L := [(0, .inl (.int z5))]) rfl rfl ?_
    refine sf_iload rfl ?_
    refine sf_f1_eq (fun h6 => ?_) (fun h6 => absurd h6 (by omega))
    refine sf_throw rfl rfl ?_
    refine sf_xout rfl rfl ?_
    refine sf_xhh (L' := [(0, .inl (.ref 0)), (1, .inl (.int a_l1)), (2, .inl (.ref 130))]) rfl rfl ?_
    refine sf_iconst sf_c1 (fun z7 ez7 => ?_)
    refine sf_ireturn rfl rfl ?_
    exact hR _ _ hI0 hs0 (by omega) (by omega) 
  · refine sf_iload rfl ?_
    refine sf_iload rfl ?_
    refine sf_f2_gt (fun h8 => ?_) (fun h8 => ?_)
    · refine sf_iconst sf_c0 (fun z9 ez9 => ?_)
      refine sf_zreturn (by omega) rfl rfl ?_
      refine sf_call1 rfl rfl rfl ?_
      refine sf_sp (L := [(0, .inl (.int z9))]) rfl rfl ?_
      refine sf_iload rfl ?_
      refine sf_f1_eq (fun h10 => ?_) (fun h10 => absurd h10 (by omega))
      refine sf_throw rfl rfl ?_
      refine sf_xout rfl rfl ?_
      refine sf_xhh (L' := [(0, .inl (.ref 0)), (1, .inl (.int a_l1)), (2, .inl (.ref 130))]) rfl rfl ?_
      refine sf_iconst sf_c1 (fun z11 ez11 => ?_)
      refine sf_ireturn rfl rfl ?_
      exact hR _ _ hI0 hs0 (by omega) (by omega) 
    · refine sf_iconst sf_c1 (fun z12 ez12 => ?_)
      refine sf_zreturn (by omega) rfl rfl ?_
      refine sf_call1 rfl rfl rfl ?_
      refine sf_sp (L := [(0, .inl (.int z12))]) rfl rfl ?_
      refine sf_iload rfl ?_
      refine sf_f1_eq (fun h13 => absurd h13 (by omega)) (fun h13 => ?_)
      refine sf_vreturn rfl rfl ?_
      refine sf_iload rfl ?_
      refine sf_f1_eq (fun h14 => ?_) (fun h14 => ?_)
      · refine sf_aload rfl ?_
        refine sf_getr hI0 rfl rfl ?_
        refine sf_getl hI0 rfl rfl (fun v15 => ?_)
        refine sf_lreturn rfl rfl ?_
        refine sf_last hI0 hs0 rfl (by omega) rfl rfl (fun w16 Iw16 sw16 kw16 uw16 => ?_)
        clear kw16 uw16
        refine sf_iconst sf_c0 (fun z17 ez17 => ?_)
        refine sf_ireturn rfl rfl ?_
        exact hR _ _ Iw16 sw16 (by omega) (by omega) 
      · refine sf_aload rfl ?_
        refine sf_getr hI0 rfl rfl ?_
        refine sf_getl hI0 rfl rfl (fun v18 => ?_)
        refine sf_lreturn rfl rfl ?_
        refine sf_last hI0 hs0 rfl (by omega) rfl rfl (fun w19 Iw19 sw19 kw19 uw19 => ?_)
        clear kw19 uw19
        refine sf_iconst sf_c0 (fun z20 ez20 => ?_)
        refine sf_ireturn rfl rfl ?_
        exact hR _ _ Iw19 sw19 (by omega) (by omega) 
