def sm_M_release : List Nat := [71, 123, 127, 8100, 8166]
set_option maxRecDepth 100000 in
set_option maxHeartbeats 4000000 in
theorem sc_M_release {w0 : wq_W} (hI0 : sf_I w0) {rt : Option wq_V → wq_W → Prop} {xt : Nat → wq_W → Prop} {a_good : Int32} {a_units : Int32}  (hR : ∀ (r : Int64) (w : wq_W), sf_I w → sf_m sm_M_release w0 w → rt (some (.inl (.long r))) w) : ks_M_release [.inl (.ref 71), .inl (.int a_good), .inl (.int a_units)] w0 rt xt := by
  have hs0 : sf_m sm_M_release w0 w0 := sf_m0
  refine sf_sp (L := [(0, .inl (.ref 71)), (1, .inl (.int a_good)), (2, .inl (.int a_units))]) rfl rfl ?_
  refine sf_aload rfl ?_
  refine sf_iload rfl ?_
  refine sf_iconst sf_c0 (fun z1 ez1 => ?_)
  refine sf_iconst sf_c15 (fun z2 ez2 => ?_)
  refine sf_call3 rfl rfl rfl ?_
  refine sf_sp (L := [(0, .inl (.int a_good)), (1, .inl (.int z1)), (2, .inl (.int z2))]) rfl rfl ?_
  refine sf_iload rfl ?_
  refine sf_iload rfl ?_
  refine sf_f2_lt (fun h3 => ?_) (fun h3 => ?_)
  · refine sf_iconst sf_c0 (fun z4 ez4 => ?_)
    refine sf_zreturn (by omega) rfl rfl ?_
    refine sf_f1_eq (fun h5 => ?_) (fun h5 => absurd h5 (by omega))
    refine sf_iconst sf_c1 (fun z6 ez6 => ?_)
    refine sf_puti hI0 hs0 rfl rfl (sf_bd _) rfl rfl rfl (fun w7 Iw7 sw7 kw7 uw7 => ?_)
    clear kw7
    refine sf_aload rfl ?_
    refine sf_geti Iw7 rfl rfl (fun v8 lv8 uv8 ev8 => ?_)
    rw [uw7] at ev8
    refine sf_f1_le (fun h9 => absurd h9 (by omega)) (fun h9 => ?_)
    refine sf_lconst (by decide : (0 : Int64).toInt = 0) (fun z10 ez10 => ?_)
    refine sf_lreturn rfl rfl ?_
    exact hR _ _ Iw7 sw7 
  · refine sf_iload rfl ?_
    refine sf_iload rfl ?_
    refine sf_f2_gt (fun h11 => ?_) (fun h11 => ?_)
    · refine sf_iconst sf_c0 (fun z12 ez12 => ?_)
      refine sf_zreturn (by omega) rfl rfl ?_
      refine sf_f1_eq (fun h13 => ?_) (fun h13 => absurd h13 (by omega))
      refine sf_iconst sf_c1 (fun z14 ez14 => ?_)
      refine sf_puti hI0 hs0 rfl rfl (sf_bd _) rfl rfl rfl (fun w15 Iw15 sw15 kw15 uw15 => ?_)
      clear kw15
      refine sf_aload rfl ?_
      refine sf_geti Iw15 rfl rfl (fun v16 lv16 uv16 ev16 => ?_)
      rw [uw15] at ev16
      refine sf_f1_le (fun h17 => absurd h17 (by omega)) (fun h17 => ?_)
      refine sf_lconst (by decide : (0 : Int64).toInt = 0) (fun z18 ez18 => ?_)
      refine sf_lreturn rfl rfl ?_
      exact hR _ _ Iw15 sw15 
    · refine sf_iconst sf_c1 (fun z19 ez19 => ?_)
      refine sf_zreturn (by omega) rfl rfl ?_
      refine sf_f1_eq (fun h20 => absurd h20 (by omega)) (fun h20 => ?_)
      refine sf_iconst sf_c0 (fun z21 ez21 => ?_)
      refine sf_iload rfl ?_
      refine sf_call2 rfl rfl rfl ?_
      refine sf_sp (L := [(0, .inl (.int z21)), (1, .inl (.int a_units))]) rfl rfl ?_
      refine sf_iload rfl ?_
      refine sf_f1_eq (fun h22 => ?_) (fun h22 => absurd h22 (by omega))
      refine sf_iload rfl ?_
      refine sf_iconst sf_c1 (fun z23 ez23 => ?_)
      refine sf_f2_lt (fun h24 => ?_) (fun h24 => ?_)
      · refine sf_iconst sf_c0 (fun z25 ez25 => ?_)
        refine sf_zreturn (by omega) rfl rfl ?_
        refine sf_f1_eq (fun h26 => ?_) (fun h26 => absurd h26 (by omega))
        refine sf_iconst sf_c1 (fun z27 ez27 => ?_)
        refine sf_puti hI0 hs0 rfl rfl (sf_bd _) rfl rfl rfl (fun w28 Iw28 sw28 kw28 uw28 => ?_)
        clear kw28
        refine sf_aload rfl ?_
        refine sf_geti Iw28 rfl rfl (fun v29 lv29 uv29 ev29 => ?_)
        rw [uw28] at ev29
        refine sf_f1_le (fun h30 => absurd h30 (by omega)) (fun h30 => ?_)
        refine sf_lconst (by decide : (0 : Int64).toInt = 0) (fun z31 ez31 => ?_)
        refine sf_lreturn rfl rfl ?_
        exact hR _ _ Iw28 sw28 
      · refine sf_iload rfl ?_
        refine sf_iconst sf_c1000 (fun z32 ez32 => ?_)
        refine sf_f2_gt (fun h33 => ?_) (fun h33 => ?_)
        · refine sf_iconst sf_c0 (fun z34 ez34 => ?_)
          refine sf_zreturn (by omega) rfl rfl ?_
          refine sf_f1_eq (fun h35 => ?_) (fun h35 => absurd h35 (by omega))
          refine sf_iconst sf_c1 (fun z36 ez36 => ?_)
          refine sf_puti hI0 hs0 rfl rfl (sf_bd _) rfl rfl rfl (fun w37 Iw37 sw37 kw37 uw37 => ?_)
          clear kw37
          refine sf_aload rfl ?_
          refine sf_geti Iw37 rfl rfl (fun v38 lv38 uv38 ev38 => ?_)
          rw [uw37] at ev38
          refine sf_f1_le (fun h39 => absurd h39 (by omega)) (fun h39 => ?_)
          refine sf_lconst (by decide : (0 : Int64).toInt = 0) (fun z40 ez40 => ?_)
          refine sf_lreturn rfl rfl ?_
          exact hR _ _ Iw37 sw37 
        · refine sf_iconst sf_c1 (fun z41 ez41 => ?_)
          refine sf_zreturn (by omega) rfl rfl ?_
          refine sf_f1_eq (fun h42 => absurd h42 (by omega)) (fun h42 => ?_)
          refine sf_aload rfl ?_
          refine sf_iload rfl ?_
          refine sf_iconst sf_c1 (fun z43 ez43 => ?_)
          refine sf_call3 rfl rfl rfl ?_
          refine sf_rv hI0 rfl ?_
          refine sc_M_left hI0 (by omega) (by omega) (fun v44 => ?_)
          refine sf_iload rfl ?_
          refine sf_f2_ge (fun h46 => ?_) (fun h46 => ?_)
          · refine sf_iconst sf_c0 (fun z47 ez47 => ?_)
            refine sf_puti hI0 hs0 rfl rfl (sf_bd _) rfl rfl rfl (fun w48 Iw48 sw48 kw48 uw48 => ?_)
            clear kw48
            refine sf_aload rfl ?_
            refine sf_geti Iw48 rfl rfl (fun v49 lv49 uv49 ev49 => ?_)
            rw [uw48] at ev49
            refine sf_f1_le (fun h50 => ?_) (fun h50 => absurd h50 (by omega))
            refine sf_aload rfl ?_
            refine sf_iload rfl ?_
            refine sf_iload rfl ?_
            refine sf_iconst sf_c1 (fun z51 ez51 => ?_)
            refine sf_call4 rfl rfl rfl ?_
            refine sf_rv Iw48 rfl ?_
            refine sc_M_take Iw48 (by omega) (by omega) (fun v52 w53 Iw53 tw53 => ?_)
            have s55 := sf_mt sw48 tw53 rfl
            have c56 := sf_mf tw53 (p := 71) (j := 0) rfl
            refine sf_lstore (L' := [(0, .inl (.ref 71)), (1, .inl (.int a_good)), (2, .inl (.int a_units))]) rfl ?_
            refine sf_aload rfl ?_
            refine sf_getr Iw53 rfl rfl ?_
            refine sf_iload rfl ?_
            refine sf_aload rfl ?_
            refine sf_getr Iw53 rfl rfl ?_
            refine sf_iload rfl ?_
            refine sf_iald Iw53 rfl (by omega) (fun v57 lv57 uv57 ev57 => ?_)
            clear lv57 uv57
            clear ev57
            refine sf_iload rfl ?_
            refine sf_i2 (fun v58 => ?_)
            refine sf_iast Iw53 s55 rfl (by omega) (sf_bd _) rfl rfl (fun w59 Iw59 sw59 kw59 uw59 => ?_)
            have c60 := sf_mf kw59 (p := 71) (j := 0) rfl
            clear kw59 uw59
            refine sf_aload rfl ?_
            refine sf_aload rfl ?_
            refine sf_getl Iw59 rfl rfl (fun v61 => ?_)
            refine sf_lload rfl ?_
            refine sf_l2 (fun v62 => ?_)
            refine sf_putl Iw59 sw59 rfl rfl rfl rfl rfl (fun w63 Iw63 sw63 kw63 uw63 => ?_)
            have c64 := sf_mf kw63 (p := 71) (j := 0) rfl
            clear kw63 uw63
            refine sf_lload rfl ?_
            refine sf_lreturn rfl rfl ?_
            exact hR _ _ Iw63 sw63 
          · refine sf_iconst sf_c2 (fun z65 ez65 => ?_)
            refine sf_puti hI0 hs0 rfl rfl (sf_bd _) rfl rfl rfl (fun w66 Iw66 sw66 kw66 uw66 => ?_)
            clear kw66
            refine sf_aload rfl ?_
            refine sf_geti Iw66 rfl rfl (fun v67 lv67 uv67 ev67 => ?_)
            rw [uw66] at ev67
            refine sf_f1_le (fun h68 => absurd h68 (by omega)) (fun h68 => ?_)
            refine sf_lconst (by decide : (0 : Int64).toInt = 0) (fun z69 ez69 => ?_)
            refine sf_lreturn rfl rfl ?_
            exact hR _ _ Iw66 sw66 
def sm_M_export : List Nat := [71, 123, 8100, 8167]
set_option maxRecDepth 100000 in
set_option maxHeartbeats 4000000 in
theorem sc_M_export {w0 : wq_W} (hI0 : sf_I w0) {rt : Option wq_V → wq_W → Prop} {xt : Nat → wq_W → Prop} {a_good : Int32} {a_units : Int32}  (hR : ∀ (r : Int64) (w : wq_W), sf_I w → sf_m sm_M_export w0 w → rt (some (.inl (.long r))) w) : ks_M_export [.inl (.ref 71), .inl (.int a_good), .inl (.int a_units)] w0 rt xt := by
  have hs0 : sf_m sm_M_export w0 w0 := sf_m0
  refine sf_sp (L := [(0, .inl (.ref 71)), (1, .inl (.int a_good)), (2, .inl (.int a_units))]) rfl rfl ?_
  refine sf_aload rfl ?_
  refine sf_iload rfl ?_
  refine sf_iconst sf_c0 (fun z1 ez1 => ?_)
  refine sf_iconst sf_c15 (fun z2 ez2 => ?_)
  refine sf_call3 rfl rfl rfl ?_
  refine sf_sp (L := [(0, .inl (.int a_good)), (1, .inl (.int z1)), (2, .inl (.int z2))]) rfl rfl ?_
  refine sf_iload rfl ?_
  refine sf_iload rfl ?_
  refine sf_f2_lt (fun h3 => ?_) (fun h3 => ?_)
  · refine sf_iconst sf_c0 (fun z4 ez4 => ?_)
    refine sf_zreturn (by omega) rfl rfl ?_
    refine sf_f1_eq (fun h5 => ?_) (fun h5 => absurd h5 (by omega))
    refine sf_iconst sf_c1 (fun z6 ez6 => ?_)
    refine sf_puti hI0 hs0 rfl rfl (sf_bd _) rfl rfl rfl (fun w7 Iw7 sw7 kw7 uw7 => ?_)
    clear kw7
    refine sf_aload rfl ?_
    refine sf_geti Iw7 rfl rfl (fun v8 lv8 uv8 ev8 => ?_)
    rw [uw7] at ev8
    refine sf_f1_le (fun h9 => absurd h9 (by omega)) (fun h9 => ?_)
    refine sf_lconst (by decide : (0 : Int64).toInt = 0) (fun z10 ez10 => ?_)
    refine sf_lreturn rfl rfl ?_
    exact hR _ _ Iw7 sw7 
  · refine sf_iload rfl ?_
    refine sf_iload rfl ?_
    refine sf_f2_gt (fun h11 => ?_) (fun h11 => ?_)
    · refine sf_iconst sf_c0 (fun z12 ez12 => ?_)
      refine sf_zreturn (by omega) rfl rfl ?_
      refine sf_f1_eq (fun h13 => ?_) (fun h13 => absurd h13 (by omega))
      refine sf_iconst sf_c1 (fun z14 ez14 => ?_)
      refine sf_puti hI0 hs0 rfl rfl (sf_bd _) rfl rfl rfl (fun w15 Iw15 sw15 kw15 uw15 => ?_)
      clear kw15
      refine sf_aload rfl ?_
      refine sf_geti Iw15 rfl rfl (fun v16 lv16 uv16 ev16 => ?_)
      rw [uw15] at ev16
      refine sf_f1_le (fun h17 => absurd h17 (by omega)) (fun h17 => ?_)
      refine sf_lconst (by decide : (0 : Int64).toInt = 0) (fun z18 ez18 => ?_)
      refine sf_lreturn rfl rfl ?_
      exact hR _ _ Iw15 sw15 
    · refine sf_iconst sf_c1 (fun z19 ez19 => ?_)
      refine sf_zreturn (by omega) rfl rfl ?_
      refine sf_f1_eq (fun h20 => absurd h20 (by omega)) (fun h20 => ?_)
      refine sf_iconst sf_c0 (fun z21 ez21 => ?_)
      refine sf_iload rfl ?_
      refine sf_call2 rfl rfl rfl ?_
      refine sf_sp (L := [(0, .inl (.int z21)), (1, .inl (.int a_units))]) rfl rfl ?_
      refine sf_iload rfl ?_
      refine sf_f1_eq (fun h22 => ?_) (fun h22 => absurd h22 (by omega))
      refine sf_iload rfl ?_
      refine sf_iconst sf_c1 (fun z23 ez23 => ?_)
      refine sf_f2_lt (fun h24 => ?_) (fun h24 => ?_)
      · refine sf_iconst sf_c0 (fun z25 ez25 => ?_)
        refine sf_zreturn (by omega) rfl rfl ?_
        refine sf_f1_eq (fun h26 => ?_) (fun h26 => absurd h26 (by omega))
        refine sf_iconst sf_c1 (fun z27 ez27 => ?_)
        refine sf_puti hI0 hs0 rfl rfl (sf_bd _) rfl rfl rfl (fun w28 Iw28 sw28 kw28 uw28 => ?_)
        clear kw28
        refine sf_aload rfl ?_
        refine sf_geti Iw28 rfl rfl (fun v29 lv29 uv29 ev29 => ?_)
        rw [uw28] at ev29
        refine sf_f1_le (fun h30 => absurd h30 (by omega)) (fun h30 => ?_)
        refine sf_lconst (by decide : (0 : Int64).toInt = 0) (fun z31 ez31 => ?_)
        refine sf_lreturn rfl rfl ?_
        exact hR _ _ Iw28 sw28 
      · refine sf_iload rfl ?_
        refine sf_iconst sf_c1000 (fun z32 ez32 => ?_)
        refine sf_f2_gt (fun h33 => ?_) (fun h33 => ?_)
        · refine sf_iconst sf_c0 (fun z34 ez34 => ?_)
          refine sf_zreturn (by omega) rfl rfl ?_
          refine sf_f1_eq (fun h35 => ?_) (fun h35 => absurd h35 (by omega))
          refine sf_iconst sf_c1 (fun z36 ez36 => ?_)
          refine sf_puti hI0 hs0 rfl rfl (sf_bd _) rfl rfl rfl (fun w37 Iw37 sw37 kw37 uw37 => ?_)
          clear kw37
          refine sf_aload rfl ?_
          refine sf_geti Iw37 rfl rfl (fun v38 lv38 uv38 ev38 => ?_)
          rw [uw37] at ev38
          refine sf_f1_le (fun h39 => absurd h39 (by omega)) (fun h39 => ?_)
          refine sf_lconst (by decide : (0 : Int64).toInt = 0) (fun z40 ez40 => ?_)
          refine sf_lreturn rfl rfl ?_
          exact hR _ _ Iw37 sw37 
        · refine sf_iconst sf_c1 (fun z41 ez41 => ?_)
          refine sf_zreturn (by omega) rfl rfl ?_
          refine sf_f1_eq (fun h42 => absurd h42 (by omega)) (fun h42 => ?_)
          refine sf_aload rfl ?_
          refine sf_iload rfl ?_
          refine sf_iconst sf_c0 (fun z43 ez43 => ?_)
          refine sf_call3 rfl rfl rfl ?_
          refine sf_rv hI0 rfl ?_
          refine sc_M_left hI0 (by omega) (by omega) (fun v44 => ?_)
          refine sf_iload rfl ?_
          refine sf_f2_ge (fun h46 => ?_) (fun h46 => ?_)
          · refine sf_iconst sf_c0 (fun z47 ez47 => ?_)
            refine sf_puti hI0 hs0 rfl rfl (sf_bd _) rfl rfl rfl (fun w48 Iw48 sw48 kw48 uw48 => ?_)
            clear kw48
            refine sf_aload rfl ?_
            refine sf_geti Iw48 rfl rfl (fun v49 lv49 uv49 ev49 => ?_)
            rw [uw48] at ev49
            refine sf_f1_le (fun h50 => ?_) (fun h50 => absurd h50 (by omega))
            refine sf_aload rfl ?_
            refine sf_iload rfl ?_
            refine sf_iload rfl ?_
            refine sf_iconst sf_c0 (fun z51 ez51 => ?_)
            refine sf_call4 rfl rfl rfl ?_
            refine sf_rv Iw48 rfl ?_
            refine sc_M_take Iw48 (by omega) (by omega) (fun v52 w53 Iw53 tw53 => ?_)
            have s55 := sf_mt sw48 tw53 rfl
            have c56 := sf_mf tw53 (p := 71) (j := 0) rfl
            refine sf_lstore (L' := [(0, .inl (.ref 71)), (1, .inl (.int a_good)), (2, .inl (.int a_units))]) rfl ?_
            refine sf_aload rfl ?_
            refine sf_aload rfl ?_
            refine sf_getl Iw53 rfl rfl (fun v57 => ?_)
            refine sf_lload rfl ?_
            refine sf_l2 (fun v58 => ?_)
            refine sf_putl Iw53 s55 rfl rfl rfl rfl rfl (fun w59 Iw59 sw59 kw59 uw59 => ?_)
            have c60 := sf_mf kw59 (p := 71) (j := 0) rfl
            clear kw59 uw59
            refine sf_lload rfl ?_
            refine sf_lreturn rfl rfl ?_
            exact hR _ _ Iw59 sw59 
          · refine sf_iconst sf_c2 (fun z61 ez61 => ?_)
            refine sf_puti hI0 hs0 rfl rfl (sf_bd _) rfl rfl rfl (fun w62 Iw62 sw62 kw62 uw62 => ?_)
            clear kw62
            refine sf_aload rfl ?_
            refine sf_geti Iw62 rfl rfl (fun v63 lv63 uv63 ev63 => ?_)
            rw [uw62] at ev63
            refine sf_f1_le (fun h64 => absurd h64 (by omega)) (fun h64 => ?_)
            refine sf_lconst (by decide : (0 : Int64).toInt = 0) (fun z65 ez65 => ?_)
            refine sf_lreturn rfl rfl ?_
            exact hR _ _ Iw62 sw62 
def sm_M_work : List Nat := [71, 121, 122, 123, 124, 125, 126, 128, 129, 8100, 8156]
set_option maxRecDepth 100000 in
set_option maxHeartbeats 4000000 in
theorem sc_M_work {w0 : wq_W} (hI0 : sf_I w0) {rt : Option wq_V → wq_W → Prop} {xt : Nat → wq_W → Prop} {a_good : Int32} {a_units : Int32} {a_other : Int32} {a_many : Int32}  (hR : ∀ (r : Int32) (w : wq_W), sf_I w → sf_m sm_M_work w0 w → 0 ≤ r.toInt → r.toInt ≤ 40 → rt (some (.inl (.int r))) w) : ks_M_work [.inl (.ref 71), .inl (.int a_good), .inl (.int a_units), .inl (.int a_other), .inl (.int a_many)] w0 rt xt := by
  have hs0 : sf_m sm_M_work w0 w0 := sf_m0
  refine sf_sp (L := [(0, .inl (.ref 71)), (1, .inl (.int a_good)), (2, .inl (.int a_units)), (3, .inl (.int a_other)), (4, .inl (.int a_many))]) rfl rfl ?_
  refine sf_iload rfl ?_
  refine sf_iconst sf_c0 (fun z1 ez1 => ?_)
  refine sf_iconst sf_c15 (fun z2 ez2 => ?_)
  refine sf_call3 rfl rfl rfl ?_
  refine sf_sp (L := [(0, .inl (.int a_good)), (1, .inl (.int z1)), (2, .inl (.int z2))]) rfl rfl ?_
  refine sf_iload rfl ?_
  refine sf_iload rfl ?_
  refine sf_f2_lt (fun h3 => ?_) (fun h3 => ?_)
  · refine sf_iconst sf_c0 (fun z4 ez4 => ?_)
    refine sf_zreturn (by omega) rfl rfl ?_
    refine sf_f1_eq (fun h5 => ?_) (fun h5 => absurd h5 (by omega))
    refine sf_iconst sf_c0 (fun z6 ez6 => ?_)
    refine sf_istore (L' := [(0, .inl (.ref 71)), (1, .inl (.int a_good)), (2, .inl (.int a_units)), (3, .inl (.int a_other)), (4, .inl (.int a_many))]) rfl ?_
    refine sf_aload rfl ?_
    refine sf_iload rfl ?_
    refine sf_f1_eq (fun h7 => ?_) (fun h7 => absurd h7 (by omega))
    refine sf_iconst sf_c1 (fun z8 ez8 => ?_)
    refine sf_puti hI0 hs0 rfl rfl (sf_bd _) rfl rfl rfl (fun w9 Iw9 sw9 kw9 uw9 => ?_)
    have c10 := sf_mf kw9 (p := 71) (j := 56) rfl
    clear kw9
    refine sf_aload rfl ?_
    refine sf_geti Iw9 rfl rfl (fun v11 lv11 uv11 ev11 => ?_)
    rw [uw9] at ev11
    refine sf_f1_le (fun h12 => absurd h12 (by omega)) (fun h12 => ?_)
    refine sf_iconst sf_c0 (fun z13 ez13 => ?_)
    refine sf_ireturn rfl rfl ?_
    exact hR _ _ Iw9 sw9 (by omega) (by omega) 
  · refine sf_iload rfl ?_
    refine sf_iload rfl ?_
    refine sf_f2_gt (fun h14 => ?_) (fun h14 => ?_)
    · refine sf_iconst sf_c0 (fun z15 ez15 => ?_)
      refine sf_zreturn (by omega) rfl rfl ?_
      refine sf_f1_eq (fun h16 => ?_) (fun h16 => absurd h16 (by omega))
      refine sf_iconst sf_c0 (fun z17 ez17 => ?_)
      refine sf_istore (L' := [(0, .inl (.ref 71)), (1, .inl (.int a_good)), (2, .inl (.int a_units)), (3, .inl (.int a_other)), (4, .inl (.int a_many))]) rfl ?_
      refine sf_aload rfl ?_
      refine sf_iload rfl ?_
      refine sf_f1_eq (fun h18 => ?_) (fun h18 => absurd h18 (by omega))
      refine sf_iconst sf_c1 (fun z19 ez19 => ?_)
      refine sf_puti hI0 hs0 rfl rfl (sf_bd _) rfl rfl rfl (fun w20 Iw20 sw20 kw20 uw20 => ?_)
      have c21 := sf_mf kw20 (p := 71) (j := 56) rfl
      clear kw20
      refine sf_aload rfl ?_
      refine sf_geti Iw20 rfl rfl (fun v22 lv22 uv22 ev22 => ?_)
      rw [uw20] at ev22
      refine sf_f1_le (fun h23 => absurd h23 (by omega)) (fun h23 => ?_)
      refine sf_iconst sf_c0 (fun z24 ez24 => ?_)
      refine sf_ireturn rfl rfl ?_
      exact hR _ _ Iw20 sw20 (by omega) (by omega) 
    · refine sf_iconst sf_c1 (fun z25 ez25 => ?_)
      refine sf_zreturn (by omega) rfl rfl ?_
      refine sf_f1_eq (fun h26 => absurd h26 (by omega)) (fun h26 => ?_)
      refine sf_iload rfl ?_
      refine sf_iconst sf_c0 (fun z27 ez27 => ?_)
      refine sf_iconst sf_c15 (fun z28 ez28 => ?_)
      refine sf_call3 rfl rfl rfl ?_
      refine sf_sp (L := [(0, .inl (.int a_other)), (1, .inl (.int z27)), (2, .inl (.int z28))]) rfl rfl ?_
      refine sf_iload rfl ?_
      refine sf_iload rfl ?_
      refine sf_f2_lt (fun h29 => ?_) (fun h29 => ?_)
      · refine sf_iconst sf_c0 (fun z30 ez30 => ?_)
        refine sf_zreturn (by omega) rfl rfl ?_
        refine sf_f1_eq (fun h31 => ?_) (fun h31 => absurd h31 (by omega))
        refine sf_iconst sf_c0 (fun z32 ez32 => ?_)
        refine sf_istore (L' := [(0, .inl (.ref 71)), (1, .inl (.int a_good)), (2, .inl (.int a_units)), (3, .inl (.int a_other)), (4, .inl (.int a_many))]) rfl ?_
        refine sf_aload rfl ?_
        refine sf_iload rfl ?_
        refine sf_f1_eq (fun h33 => ?_) (fun h33 => absurd h33 (by omega))
        refine sf_iconst sf_c1 (fun z34 ez34 => ?_)
        refine sf_puti hI0 hs0 rfl rfl (sf_bd _) rfl rfl rfl (fun w35 Iw35 sw35 kw35 uw35 => ?_)
        have c36 := sf_mf kw35 (p := 71) (j := 56) rfl
        clear kw35
        refine sf_aload rfl ?_
        refine sf_geti Iw35 rfl rfl (fun v37 lv37 uv37 ev37 => ?_)
        rw [uw35] at ev37
        refine sf_f1_le (fun h38 => absurd h38 (by omega)) (fun h38 => ?_)
        refine sf_iconst sf_c0 (fun z39 ez39 => ?_)
        refine sf_ireturn rfl rfl ?_
        exact hR _ _ Iw35 sw35 (by omega) (by omega) 
      · refine sf_iload rfl ?_
        refine sf_iload rfl ?_
        refine sf_f2_gt (fun h40 => ?_) (fun h40 => ?_)
        · refine sf_iconst sf_c0 (fun z41 ez41 => ?_)
          refine sf_zreturn (by omega) rfl rfl ?_
          refine sf_f1_eq (fun h42 => ?_) (fun h42 => absurd h42 (by omega))
          refine sf_iconst sf_c0 (fun z43 ez43 => ?_)
          refine sf_istore (L' := [(0, .inl (.ref 71)), (1, .inl (.int a_good)), (2, .inl (.int a_units)), (3, .inl (.int a_other)), (4, .inl (.int a_many))]) rfl ?_
          refine sf_aload rfl ?_
          refine sf_iload rfl ?_
          refine sf_f1_eq (fun h44 => ?_) (fun h44 => absurd h44 (by omega))
          refine sf_iconst sf_c1 (fun z45 ez45 => ?_)
          refine sf_puti hI0 hs0 rfl rfl (sf_bd _) rfl rfl rfl (fun w46 Iw46 sw46 kw46 uw46 => ?_)
          have c47 := sf_mf kw46 (p := 71) (j := 56) rfl
          clear kw46
          refine sf_aload rfl ?_
          refine sf_geti Iw46 rfl rfl (fun v48 lv48 uv48 ev48 => ?_)
          rw [uw46] at ev48
          refine sf_f1_le (fun h49 => absurd h49 (by omega)) (fun h49 => ?_)
          refine sf_iconst sf_c0 (fun z50 ez50 => ?_)
          refine sf_ireturn rfl rfl ?_
          exact hR _ _ Iw46 sw46 (by omega) (by omega) 
        · refine sf_iconst sf_c1 (fun z51 ez51 => ?_)
          refine sf_zreturn (by omega) rfl rfl ?_
          refine sf_f1_eq (fun h52 => absurd h52 (by omega)) (fun h52 => ?_)
          refine sf_iload rfl ?_
          refine sf_iload rfl ?_
          refine sf_f2_eq (fun h53 => ?_) (fun h53 => ?_)
          · refine sf_iconst sf_c0 (fun z54 ez54 => ?_)
            refine sf_istore (L' := [(0, .inl (.ref 71)), (1, .inl (.int a_good)), (2, .inl (.int a_units)), (3, .inl (.int a_other)), (4, .inl (.int a_many))]) rfl ?_
            refine sf_aload rfl ?_
            refine sf_iload rfl ?_
            refine sf_f1_eq (fun h55 => ?_) (fun h55 => absurd h55 (by omega))
            refine sf_iconst sf_c1 (fun z56 ez56 => ?_)
            refine sf_puti hI0 hs0 rfl rfl (sf_bd _) rfl rfl rfl (fun w57 Iw57 sw57 kw57 uw57 => ?_)
            have c58 := sf_mf kw57 (p := 71) (j := 56) rfl
            clear kw57
            refine sf_aload rfl ?_
            refine sf_geti Iw57 rfl rfl (fun v59 lv59 uv59 ev59 => ?_)
            rw [uw57] at ev59
            refine sf_f1_le (fun h60 => absurd h60 (by omega)) (fun h60 => ?_)
            refine sf_iconst sf_c0 (fun z61 ez61 => ?_)
            refine sf_ireturn rfl rfl ?_
            exact hR _ _ Iw57 sw57 (by omega) (by omega) 
          · refine sf_iload rfl ?_
            refine sf_iconst sf_c1 (fun z62 ez62 => ?_)
            refine sf_f2_lt (fun h63 => ?_) (fun h63 => ?_)
            · refine sf_iconst sf_c0 (fun z64 ez64 => ?_)
              refine sf_istore (L' := [(0, .inl (.ref 71)), (1, .inl (.int a_good)), (2, .inl (.int a_units)), (3, .inl (.int a_other)), (4, .inl (.int a_many))]) rfl ?_
              refine sf_aload rfl ?_
              refine sf_iload rfl ?_
              refine sf_f1_eq (fun h65 => ?_) (fun h65 => absurd h65 (by omega))
              refine sf_iconst sf_c1 (fun z66 ez66 => ?_)
              refine sf_puti hI0 hs0 rfl rfl (sf_bd _) rfl rfl rfl (fun w67 Iw67 sw67 kw67 uw67 => ?_)
              have c68 := sf_mf kw67 (p := 71) (j := 56) rfl
              clear kw67
              refine sf_aload rfl ?_
              refine sf_geti Iw67 rfl rfl (fun v69 lv69 uv69 ev69 => ?_)
              rw [uw67] at ev69
              refine sf_f1_le (fun h70 => absurd h70 (by omega)) (fun h70 => ?_)
              refine sf_iconst sf_c0 (fun z71 ez71 => ?_)
              refine sf_ireturn rfl rfl ?_
              exact hR _ _ Iw67 sw67 (by omega) (by omega) 
            · refine sf_iload rfl ?_
              refine sf_iload rfl ?_
              refine sf_f2_gt (fun h72 => ?_) (fun h72 => ?_)
              · refine sf_iconst sf_c0 (fun z73 ez73 => ?_)
                refine sf_istore (L' := [(0, .inl (.ref 71)), (1, .inl (.int a_good)), (2, .inl (.int a_units)), (3, .inl (.int a_other)), (4, .inl (.int a_many))]) rfl ?_
                refine sf_aload rfl ?_
                refine sf_iload rfl ?_
                refine sf_f1_eq (fun h74 => ?_) (fun h74 => absurd h74 (by omega))
                refine sf_iconst sf_c1 (fun z75 ez75 => ?_)
                refine sf_puti hI0 hs0 rfl rfl (sf_bd _) rfl rfl rfl (fun w76 Iw76 sw76 kw76 uw76 => ?_)
                have c77 := sf_mf kw76 (p := 71) (j := 56) rfl
                clear kw76
                refine sf_aload rfl ?_
                refine sf_geti Iw76 rfl rfl (fun v78 lv78 uv78 ev78 => ?_)
                rw [uw76] at ev78
                refine sf_f1_le (fun h79 => absurd h79 (by omega)) (fun h79 => ?_)
                refine sf_iconst sf_c0 (fun z80 ez80 => ?_)
                refine sf_ireturn rfl rfl ?_
                exact hR _ _ Iw76 sw76 (by omega) (by omega) 
              · refine sf_iload rfl ?_
                refine sf_iconst sf_c1000 (fun z81 ez81 => ?_)
                refine sf_f2_gt (fun h82 => ?_) (fun h82 => ?_)
                · refine sf_iconst sf_c0 (fun z83 ez83 => ?_)
                  refine sf_istore (L' := [(0, .inl (.ref 71)), (1, .inl (.int a_good)), (2, .inl (.int a_units)), (3, .inl (.int a_other)), (4, .inl (.int a_many))]) rfl ?_
                  refine sf_aload rfl ?_
                  refine sf_iload rfl ?_
                  refine sf_f1_eq (fun h84 => ?_) (fun h84 => absurd h84 (by omega))
                  refine sf_iconst sf_c1 (fun z85 ez85 => ?_)
                  refine sf_puti hI0 hs0 rfl rfl (sf_bd _) rfl rfl rfl (fun w86 Iw86 sw86 kw86 uw86 => ?_)
                  have c87 := sf_mf kw86 (p := 71) (j := 56) rfl
                  clear kw86
                  refine sf_aload rfl ?_
                  refine sf_geti Iw86 rfl rfl (fun v88 lv88 uv88 ev88 => ?_)
                  rw [uw86] at ev88
                  refine sf_f1_le (fun h89 => absurd h89 (by omega)) (fun h89 => ?_)
                  refine sf_iconst sf_c0 (fun z90 ez90 => ?_)
                  refine sf_ireturn rfl rfl ?_
                  exact hR _ _ Iw86 sw86 (by omega) (by omega) 
                · refine sf_iconst sf_c1 (fun z91 ez91 => ?_)
                  refine sf_istore (L' := [(0, .inl (.ref 71)), (1, .inl (.int a_good)), (2, .inl (.int a_units)), (3, .inl (.int a_other)), (4, .inl (.int a_many))]) rfl ?_
                  refine sf_aload rfl ?_
                  refine sf_iload rfl ?_
                  refine sf_f1_eq (fun h92 => absurd h92 (by omega)) (fun h92 => ?_)
                  refine sf_aload rfl ?_
                  refine sf_iload rfl ?_
                  refine sf_iconst sf_c1 (fun z93 ez93 => ?_)
                  refine sf_call3 rfl rfl rfl ?_
                  refine sf_rv hI0 rfl ?_
                  refine sc_M_left hI0 (by omega) (by omega) (fun v94 => ?_)
                  refine sf_iload rfl ?_
                  refine sf_f2_ge (fun h96 => ?_) (fun h96 => ?_)
                  · refine sf_aload rfl ?_
                    refine sf_geti hI0 rfl rfl (fun v97 lv97 uv97 ev97 => ?_)
                    refine sf_iconst sf_c40 (fun z98 ez98 => ?_)
                    refine sf_f2_eq (fun h99 => ?_) (fun h99 => ?_)
                    · refine sf_iconst sf_c3 (fun z100 ez100 => ?_)
                      refine sf_puti hI0 hs0 rfl rfl (sf_bd _) rfl rfl rfl (fun w101 Iw101 sw101 kw101 uw101 => ?_)
                      have c102 := sf_mf kw101 (p := 71) (j := 56) rfl
                      clear kw101
                      refine sf_aload rfl ?_
                      refine sf_geti Iw101 rfl rfl (fun v103 lv103 uv103 ev103 => ?_)
                      rw [uw101] at ev103
                      refine sf_f1_le (fun h104 => absurd h104 (by omega)) (fun h104 => ?_)
                      refine sf_iconst sf_c0 (fun z105 ez105 => ?_)
                      refine sf_ireturn rfl rfl ?_
                      exact hR _ _ Iw101 sw101 (by omega) (by omega) 
                    · refine sf_iconst sf_c0 (fun z106 ez106 => ?_)
                      refine sf_puti hI0 hs0 rfl rfl (sf_bd _) rfl rfl rfl (fun w107 Iw107 sw107 kw107 uw107 => ?_)
                      have c108 := sf_mf kw107 (p := 71) (j := 56) rfl
                      clear kw107
                      refine sf_aload rfl ?_
                      refine sf_geti Iw107 rfl rfl (fun v109 lv109 uv109 ev109 => ?_)
                      rw [uw107] at ev109
                      refine sf_f1_le (fun h110 => ?_) (fun h110 => absurd h110 (by omega))
                      refine sf_aload rfl ?_
                      refine sf_iload rfl ?_
                      refine sf_iload rfl ?_
                      refine sf_iconst sf_c1 (fun z111 ez111 => ?_)
                      refine sf_call4 rfl rfl rfl ?_
                      refine sf_rv Iw107 rfl ?_
                      refine sc_M_take Iw107 (by omega) (by omega) (fun v112 w113 Iw113 tw113 => ?_)
                      have s115 := sf_mt sw107 tw113 rfl
                      have c116 := sf_mf tw113 (p := 71) (j := 0) rfl
                      have c117 := sf_mf tw113 (p := 71) (j := 56) rfl
                      refine sf_lstore (L' := [(5, .inl (.int z91)), (0, .inl (.ref 71)), (1, .inl (.int a_good)), (2, .inl (.int a_units)), (3, .inl (.int a_other)), (4, .inl (.int a_many))]) rfl ?_
                      refine sf_aload rfl ?_
                      refine sf_getr Iw113 rfl rfl ?_
                      refine sf_iload rfl ?_
                      refine sf_aload rfl ?_
                      refine sf_getr Iw113 rfl rfl ?_
                      refine sf_iload rfl ?_
                      refine sf_iald Iw113 rfl (by omega) (fun v118 lv118 uv118 ev118 => ?_)
                      clear lv118 uv118
                      clear ev118
                      refine sf_iload rfl ?_
                      refine sf_i2 (fun v119 => ?_)
                      refine sf_iast Iw113 s115 rfl (by omega) (sf_bd _) rfl rfl (fun w120 Iw120 sw120 kw120 uw120 => ?_)
                      have c121 := sf_mf kw120 (p := 71) (j := 0) rfl
                      have c122 := sf_mf kw120 (p := 71) (j := 56) rfl
                      clear kw120 uw120
                      refine sf_aload rfl ?_
                      refine sf_getr Iw120 rfl rfl ?_
                      refine sf_iload rfl ?_
                      refine sf_aload rfl ?_
                      refine sf_getr Iw120 rfl rfl ?_
                      refine sf_iload rfl ?_
                      refine sf_iald Iw120 rfl (by omega) (fun v123 lv123 uv123 ev123 => ?_)
                      clear lv123 uv123
                      clear ev123
                      refine sf_iload rfl ?_
                      refine sf_i2 (fun v124 => ?_)
                      refine sf_iload rfl ?_
                      refine sf_i2 (fun v125 => ?_)
                      refine sf_iast Iw120 sw120 rfl (by omega) (sf_bd _) rfl rfl (fun w126 Iw126 sw126 kw126 uw126 => ?_)
                      have c127 := sf_mf kw126 (p := 71) (j := 0) rfl
                      have c128 := sf_mf kw126 (p := 71) (j := 56) rfl
                      clear kw126 uw126
                      refine sf_aload rfl ?_
                      refine sf_iload rfl ?_
                      refine sf_iload rfl ?_
                      refine sf_lload rfl ?_
                      refine sf_iconst sf_c1 (fun z129 ez129 => ?_)
                      refine sf_iconst sf_c1 (fun z130 ez130 => ?_)
                      refine sf_call6 rfl rfl rfl ?_
                      refine sf_rv Iw126 rfl ?_
                      refine sc_M_addLot Iw126 (by omega) (by omega) (by omega) (by omega) (by rw [c128, c122, c117, c108]; omega) (fun v131 w132 Iw132 tw132 lv131 uv131 q133_0 q133_1 => ?_)
                      rw [c128, c122, c117, c108] at q133_0
                      rw [c128, c122, c117, c108] at q133_1
                      have s134 := sf_mt sw126 tw132 rfl
                      have c135 := sf_mf tw132 (p := 71) (j := 0) rfl
                      refine sf_ireturn rfl rfl ?_
                      exact hR _ _ Iw132 s134 (by omega) (by omega) 
                  · refine sf_iconst sf_c2 (fun z136 ez136 => ?_)
                    refine sf_puti hI0 hs0 rfl rfl (sf_bd _) rfl rfl rfl (fun w137 Iw137 sw137 kw137 uw137 => ?_)
                    have c138 := sf_mf kw137 (p := 71) (j := 56) rfl
                    clear kw137
                    refine sf_aload rfl ?_
                    refine sf_geti Iw137 rfl rfl (fun v139 lv139 uv139 ev139 => ?_)
                    rw [uw137] at ev139
                    refine sf_f1_le (fun h140 => absurd h140 (by omega)) (fun h140 => ?_)
                    refine sf_iconst sf_c0 (fun z141 ez141 => ?_)
                    refine sf_ireturn rfl rfl ?_
                    exact hR _ _ Iw137 sw137 (by omega) (by omega) 
def sm_M_lot : List Nat := [71, 8100]
set_option maxRecDepth 100000 in
set_option maxHeartbeats 4000000 in
theorem sc_M_lot {w0 : wq_W} (hI0 : sf_I w0) {rt : Option wq_V → wq_W → Prop} {xt : Nat → wq_W → Prop} {a_k : Int32} {a_what : Int32}  (hR : ∀ (r : Int64) (w : wq_W), sf_I w → sf_m sm_M_lot w0 w → rt (some (.inl (.long r))) w) : ks_M_lot [.inl (.ref 71), .inl (.int a_k), .inl (.int a_what)] w0 rt xt := by
  have hs0 : sf_m sm_M_lot w0 w0 := sf_m0
  refine sf_sp (L := [(0, .inl (.ref 71)), (1, .inl (.int a_k)), (2, .inl (.int a_what))]) rfl rfl ?_
  refine sf_aload rfl ?_
  refine sf_iload rfl ?_
  refine sf_f1_lt (fun h1 => ?_) (fun h1 => ?_)
  · refine sf_iconst sf_c1 (fun z2 ez2 => ?_)
    refine sf_puti hI0 hs0 rfl rfl (sf_bd _) rfl rfl rfl (fun w3 Iw3 sw3 kw3 uw3 => ?_)
    clear kw3
    refine sf_aload rfl ?_
    refine sf_geti Iw3 rfl rfl (fun v4 lv4 uv4 ev4 => ?_)
    rw [uw3] at ev4
    refine sf_f1_le (fun h5 => absurd h5 (by omega)) (fun h5 => ?_)
    refine sf_lconst (by decide : (0 : Int64).toInt = 0) (fun z6 ez6 => ?_)
    refine sf_lreturn rfl rfl ?_
    exact hR _ _ Iw3 sw3 
  · refine sf_iload rfl ?_
    refine sf_aload rfl ?_
    refine sf_geti hI0 rfl rfl (fun v7 lv7 uv7 ev7 => ?_)
    refine sf_f2_ge (fun h8 => ?_) (fun h8 => ?_)
    · refine sf_iconst sf_c1 (fun z9 ez9 => ?_)
      refine sf_puti hI0 hs0 rfl rfl (sf_bd _) rfl rfl rfl (fun w10 Iw10 sw10 kw10 uw10 => ?_)
      clear kw10
      refine sf_aload rfl ?_
      refine sf_geti Iw10 rfl rfl (fun v11 lv11 uv11 ev11 => ?_)
      rw [uw10] at ev11
      refine sf_f1_le (fun h12 => absurd h12 (by omega)) (fun h12 => ?_)
      refine sf_lconst (by decide : (0 : Int64).toInt = 0) (fun z13 ez13 => ?_)
      refine sf_lreturn rfl rfl ?_
      exact hR _ _ Iw10 sw10 
    · refine sf_iload rfl ?_
      refine sf_iconst sf_c0 (fun z14 ez14 => ?_)
      refine sf_iconst sf_c4 (fun z15 ez15 => ?_)
      refine sf_call3 rfl rfl rfl ?_
      refine sf_sp (L := [(0, .inl (.int a_what)), (1, .inl (.int z14)), (2, .inl (.int z15))]) rfl rfl ?_
      refine sf_iload rfl ?_
      refine sf_iload rfl ?_
      refine sf_f2_lt (fun h16 => ?_) (fun h16 => ?_)
      · refine sf_iconst sf_c0 (fun z17 ez17 => ?_)
        refine sf_zreturn (by omega) rfl rfl ?_
        refine sf_f1_eq (fun h18 => ?_) (fun h18 => absurd h18 (by omega))
        refine sf_iconst sf_c1 (fun z19 ez19 => ?_)
        refine sf_puti hI0 hs0 rfl rfl (sf_bd _) rfl rfl rfl (fun w20 Iw20 sw20 kw20 uw20 => ?_)
        clear kw20
        refine sf_aload rfl ?_
        refine sf_geti Iw20 rfl rfl (fun v21 lv21 uv21 ev21 => ?_)
        rw [uw20] at ev21
        refine sf_f1_le (fun h22 => absurd h22 (by omega)) (fun h22 => ?_)
        refine sf_lconst (by decide : (0 : Int64).toInt = 0) (fun z23 ez23 => ?_)
        refine sf_lreturn rfl rfl ?_
        exact hR _ _ Iw20 sw20 
      · refine sf_iload rfl ?_
        refine sf_iload rfl ?_
        refine sf_f2_gt (fun h24 => ?_) (fun h24 => ?_)
        · refine sf_iconst sf_c0 (fun z25 ez25 => ?_)
          refine sf_zreturn (by omega) rfl rfl ?_
          refine sf_f1_eq (fun h26 => ?_) (fun h26 => absurd h26 (by omega))
          refine sf_iconst sf_c1 (fun z27 ez27 => ?_)
          refine sf_puti hI0 hs0 rfl rfl (sf_bd _) rfl rfl rfl (fun w28 Iw28 sw28 kw28 uw28 => ?_)
          clear kw28
          refine sf_aload rfl ?_
          refine sf_geti Iw28 rfl rfl (fun v29 lv29 uv29 ev29 => ?_)
          rw [uw28] at ev29
          refine sf_f1_le (fun h30 => absurd h30 (by omega)) (fun h30 => ?_)
          refine sf_lconst (by decide : (0 : Int64).toInt = 0) (fun z31 ez31 => ?_)
          refine sf_lreturn rfl rfl ?_
          exact hR _ _ Iw28 sw28 
        · refine sf_iconst sf_c1 (fun z32 ez32 => ?_)
          refine sf_zreturn (by omega) rfl rfl ?_
          refine sf_f1_eq (fun h33 => absurd h33 (by omega)) (fun h33 => ?_)
          refine sf_iconst sf_c0 (fun z34 ez34 => ?_)
          refine sf_puti hI0 hs0 rfl rfl (sf_bd _) rfl rfl rfl (fun w35 Iw35 sw35 kw35 uw35 => ?_)
          clear kw35
          refine sf_aload rfl ?_
          refine sf_geti Iw35 rfl rfl (fun v36 lv36 uv36 ev36 => ?_)
          rw [uw35] at ev36
          refine sf_f1_le (fun h37 => ?_) (fun h37 => absurd h37 (by omega))
          refine sf_iload rfl ?_
          refine sf_sw1 sf_c0 (fun h38 => ?_) (fun h38 => ?_)
          · refine sf_aload rfl ?_
            refine sf_getr Iw35 rfl rfl ?_
            refine sf_iload rfl ?_
            refine sf_iald Iw35 rfl (by omega) (fun v39 lv39 uv39 ev39 => ?_)
            clear lv39 uv39
            clear ev39
            refine sf_i2lb (fun v40 ev40 lv40 uv40 => ?_)
            refine sf_lreturn rfl rfl ?_
            exact hR _ _ Iw35 sw35 
          · refine sf_sw1 sf_c1 (fun h41 => ?_) (fun h41 => ?_)
            · refine sf_aload rfl ?_
              refine sf_getr Iw35 rfl rfl ?_
              refine sf_iload rfl ?_
              refine sf_iald Iw35 rfl (by omega) (fun v42 lv42 uv42 ev42 => ?_)
              rw [sf_ma sw35 (p := 122) rfl] at ev42
              refine sf_i2lb (fun v43 ev43 lv43 uv43 => ?_)
              refine sf_lreturn rfl rfl ?_
              exact hR _ _ Iw35 sw35 
            · refine sf_sw1 sf_c2 (fun h44 => ?_) (fun h44 => ?_)
              · refine sf_aload rfl ?_
                refine sf_getr Iw35 rfl rfl ?_
                refine sf_iload rfl ?_
                refine sf_iald Iw35 rfl (by omega) (fun v45 lv45 uv45 ev45 => ?_)
                rw [sf_ma sw35 (p := 123) rfl] at ev45
                refine sf_i2l (fun v46 ev46 => ?_)
                refine sf_lreturn rfl rfl ?_
                exact hR _ _ Iw35 sw35 
              · refine sf_sw1 sf_c3 (fun h47 => ?_) (fun h47 => ?_)
                · refine sf_aload rfl ?_
                  refine sf_getr Iw35 rfl rfl ?_
                  refine sf_iload rfl ?_
                  refine sf_lald Iw35 rfl (by omega) (fun v48 ev48 => ?_)
                  clear ev48
                  refine sf_lreturn rfl rfl ?_
                  exact hR _ _ Iw35 sw35 
                · refine sf_sw0 ?_
                  refine sf_aload rfl ?_
                  refine sf_getr Iw35 rfl rfl ?_
                  refine sf_iload rfl ?_
                  refine sf_zald Iw35 rfl (by omega) (fun v49 lv49 uv49 ev49 => ?_)
                  clear ev49
                  refine sf_f1_eq (fun h50 => ?_) (fun h50 => ?_)
                  · refine sf_lconst (by decide : (0 : Int64).toInt = 0) (fun z51 ez51 => ?_)
                    refine sf_lreturn rfl rfl ?_
                    exact hR _ _ Iw35 sw35 
                  · refine sf_lconst (by decide : (1 : Int64).toInt = 1) (fun z52 ez52 => ?_)
                    refine sf_lreturn rfl rfl ?_
                    exact hR _ _ Iw35 sw35 
def sm_M_account : List Nat := [71, 8100]
set_option maxRecDepth 100000 in
set_option maxHeartbeats 4000000 in
theorem sc_M_account {w0 : wq_W} (hI0 : sf_I w0) {rt : Option wq_V → wq_W → Prop} {xt : Nat → wq_W → Prop} {a_good : Int32} {a_what : Int32}  (hR : ∀ (r : Int64) (w : wq_W), sf_I w → sf_m sm_M_account w0 w → rt (some (.inl (.long r))) w) : ks_M_account [.inl (.ref 71), .inl (.int a_good), .inl (.int a_what)] w0 rt xt := by
  have hs0 : sf_m sm_M_account w0 w0 := sf_m0
  refine sf_sp (L := [(0, .inl (.ref 71)), (1, .inl (.int a_good)), (2, .inl (.int a_what))]) rfl rfl ?_
  refine sf_aload rfl ?_
  refine sf_iload rfl ?_
  refine sf_iconst sf_c0 (fun z1 ez1 => ?_)
  refine sf_iconst sf_c15 (fun z2 ez2 => ?_)
  refine sf_call3 rfl rfl rfl ?_
  refine sf_sp (L := [(0, .inl (.int a_good)), (1, .inl (.int z1)), (2, .inl (.int z2))]) rfl rfl ?_
  refine sf_iload rfl ?_
  refine sf_iload rfl ?_
  refine sf_f2_lt (fun h3 => ?_) (fun h3 => ?_)
  · refine sf_iconst sf_c0 (fun z4 ez4 => ?_)
    refine sf_zreturn (by omega) rfl rfl ?_
    refine sf_f1_eq (fun h5 => ?_) (fun h5 => absurd h5 (by omega))
    refine sf_iconst sf_c1 (fun z6 ez6 => ?_)
    refine sf_puti hI0 hs0 rfl rfl (sf_bd _) rfl rfl rfl (fun w7 Iw7 sw7 kw7 uw7 => ?_)
    clear kw7
    refine sf_aload rfl ?_
    refine sf_geti Iw7 rfl rfl (fun v8 lv8 uv8 ev8 => ?_)
    rw [uw7] at ev8
    refine sf_f1_le (fun h9 => absurd h9 (by omega)) (fun h9 => ?_)
    refine sf_lconst (by decide : (0 : Int64).toInt = 0) (fun z10 ez10 => ?_)
    refine sf_lreturn rfl rfl ?_
    exact hR _ _ Iw7 sw7 
  · refine sf_iload rfl ?_
    refine sf_iload rfl ?_
    refine sf_f2_gt (fun h11 => ?_) (fun h11 => ?_)
    · refine sf_iconst sf_c0 (fun z12 ez12 => ?_)
      refine sf_zreturn (by omega) rfl rfl ?_
      refine sf_f1_eq (fun h13 => ?_) (fun h13 => absurd h13 (by omega))
      refine sf_iconst sf_c1 (fun z14 ez14 => ?_)
      refine sf_puti hI0 hs0 rfl rfl (sf_bd _) rfl rfl rfl (fun w15 Iw15 sw15 kw15 uw15 => ?_)
      clear kw15
      refine sf_aload rfl ?_
      refine sf_geti Iw15 rfl rfl (fun v16 lv16 uv16 ev16 => ?_)
      rw [uw15] at ev16
      refine sf_f1_le (fun h17 => absurd h17 (by omega)) (fun h17 => ?_)
      refine sf_lconst (by decide : (0 : Int64).toInt = 0) (fun z18 ez18 => ?_)
      refine sf_lreturn rfl rfl ?_
      exact hR _ _ Iw15 sw15 
    · refine sf_iconst sf_c1 (fun z19 ez19 => ?_)
      refine sf_zreturn (by omega) rfl rfl ?_
      refine sf_f1_eq (fun h20 => absurd h20 (by omega)) (fun h20 => ?_)
      refine sf_iload rfl ?_
      refine sf_iconst sf_c0 (fun z21 ez21 => ?_)
      refine sf_iconst sf_c5 (fun z22 ez22 => ?_)
      refine sf_call3 rfl rfl rfl ?_
      refine sf_sp (L := [(0, .inl (.int a_what)), (1, .inl (.int z21)), (2, .inl (.int z22))]) rfl rfl ?_
      refine sf_iload rfl ?_
      refine sf_iload rfl ?_
      refine sf_f2_lt (fun h23 => ?_) (fun h23 => ?_)
      · refine sf_iconst sf_c0 (fun z24 ez24 => ?_)
        refine sf_zreturn (by omega) rfl rfl ?_
        refine sf_f1_eq (fun h25 => ?_) (fun h25 => absurd h25 (by omega))
        refine sf_iconst sf_c1 (fun z26 ez26 => ?_)
        refine sf_puti hI0 hs0 rfl rfl (sf_bd _) rfl rfl rfl (fun w27 Iw27 sw27 kw27 uw27 => ?_)
        clear kw27
        refine sf_aload rfl ?_
        refine sf_geti Iw27 rfl rfl (fun v28 lv28 uv28 ev28 => ?_)
        rw [uw27] at ev28
        refine sf_f1_le (fun h29 => absurd h29 (by omega)) (fun h29 => ?_)
        refine sf_lconst (by decide : (0 : Int64).toInt = 0) (fun z30 ez30 => ?_)
        refine sf_lreturn rfl rfl ?_
        exact hR _ _ Iw27 sw27 
      · refine sf_iload rfl ?_
        refine sf_iload rfl ?_
        refine sf_f2_gt (fun h31 => ?_) (fun h31 => ?_)
        · refine sf_iconst sf_c0 (fun z32 ez32 => ?_)
          refine sf_zreturn (by omega) rfl rfl ?_
          refine sf_f1_eq (fun h33 => ?_) (fun h33 => absurd h33 (by omega))
          refine sf_iconst sf_c1 (fun z34 ez34 => ?_)
          refine sf_puti hI0 hs0 rfl rfl (sf_bd _) rfl rfl rfl (fun w35 Iw35 sw35 kw35 uw35 => ?_)
          clear kw35
          refine sf_aload rfl ?_
          refine sf_geti Iw35 rfl rfl (fun v36 lv36 uv36 ev36 => ?_)
          rw [uw35] at ev36
          refine sf_f1_le (fun h37 => absurd h37 (by omega)) (fun h37 => ?_)
          refine sf_lconst (by decide : (0 : Int64).toInt = 0) (fun z38 ez38 => ?_)
          refine sf_lreturn rfl rfl ?_
          exact hR _ _ Iw35 sw35 
        · refine sf_iconst sf_c1 (fun z39 ez39 => ?_)
          refine sf_zreturn (by omega) rfl rfl ?_
          refine sf_f1_eq (fun h40 => absurd h40 (by omega)) (fun h40 => ?_)
          refine sf_iconst sf_c0 (fun z41 ez41 => ?_)
          refine sf_puti hI0 hs0 rfl rfl (sf_bd _) rfl rfl rfl (fun w42 Iw42 sw42 kw42 uw42 => ?_)
          clear kw42
          refine sf_aload rfl ?_
          refine sf_geti Iw42 rfl rfl (fun v43 lv43 uv43 ev43 => ?_)
          rw [uw42] at ev43
          refine sf_f1_le (fun h44 => ?_) (fun h44 => absurd h44 (by omega))
          refine sf_iload rfl ?_
          refine sf_sw1 sf_c0 (fun h45 => ?_) (fun h45 => ?_)
          · refine sf_aload rfl ?_
            refine sf_iload rfl ?_
            refine sf_iconst sf_c0 (fun z46 ez46 => ?_)
            refine sf_call3 rfl rfl rfl ?_
            refine sf_rv Iw42 rfl ?_
            refine sc_M_came Iw42 (by omega) (by omega) (fun v47 => ?_)
            refine sf_i2lb (fun v49 ev49 lv49 uv49 => ?_)
            refine sf_lreturn rfl rfl ?_
            exact hR _ _ Iw42 sw42 
          · refine sf_sw1 sf_c1 (fun h50 => ?_) (fun h50 => ?_)
            · refine sf_aload rfl ?_
              refine sf_iload rfl ?_
              refine sf_iconst sf_c1 (fun z51 ez51 => ?_)
              refine sf_call3 rfl rfl rfl ?_
              refine sf_rv Iw42 rfl ?_
              refine sc_M_came Iw42 (by omega) (by omega) (fun v52 => ?_)
              refine sf_i2lb (fun v54 ev54 lv54 uv54 => ?_)
              refine sf_lreturn rfl rfl ?_
              exact hR _ _ Iw42 sw42 
            · refine sf_sw1 sf_c2 (fun h55 => ?_) (fun h55 => ?_)
              · refine sf_aload rfl ?_
                refine sf_getr Iw42 rfl rfl ?_
                refine sf_iload rfl ?_
                refine sf_iald Iw42 rfl (by omega) (fun v56 lv56 uv56 ev56 => ?_)
                clear lv56 uv56
                clear ev56
                refine sf_i2lb (fun v57 ev57 lv57 uv57 => ?_)
                refine sf_lreturn rfl rfl ?_
                exact hR _ _ Iw42 sw42 
              · refine sf_sw1 sf_c3 (fun h58 => ?_) (fun h58 => ?_)
                · refine sf_aload rfl ?_
                  refine sf_getr Iw42 rfl rfl ?_
                  refine sf_iload rfl ?_
                  refine sf_iald Iw42 rfl (by omega) (fun v59 lv59 uv59 ev59 => ?_)
                  clear lv59 uv59
                  clear ev59
                  refine sf_i2lb (fun v60 ev60 lv60 uv60 => ?_)
                  refine sf_lreturn rfl rfl ?_
                  exact hR _ _ Iw42 sw42 
                · refine sf_sw1 sf_c4 (fun h61 => ?_) (fun h61 => ?_)
                  · refine sf_aload rfl ?_
                    refine sf_getr Iw42 rfl rfl ?_
                    refine sf_iload rfl ?_
                    refine sf_iald Iw42 rfl (by omega) (fun v62 lv62 uv62 ev62 => ?_)
                    clear lv62 uv62
                    clear ev62
                    refine sf_i2lb (fun v63 ev63 lv63 uv63 => ?_)
                    refine sf_lreturn rfl rfl ?_
                    exact hR _ _ Iw42 sw42 
                  · refine sf_sw0 ?_
                    refine sf_aload rfl ?_
                    refine sf_iload rfl ?_
                    refine sf_iconst sf_c1 (fun z64 ez64 => ?_)
                    refine sf_call3 rfl rfl rfl ?_
                    refine sf_rv Iw42 rfl ?_
                    refine sc_M_left Iw42 (by omega) (by omega) (fun v65 => ?_)
                    refine sf_i2lb (fun v67 ev67 lv67 uv67 => ?_)
                    refine sf_lreturn rfl rfl ?_
                    exact hR _ _ Iw42 sw42 
def sm_M_books : List Nat := [71, 8100]
set_option maxRecDepth 100000 in
set_option maxHeartbeats 4000000 in
theorem sc_M_books {w0 : wq_W} (hI0 : sf_I w0) {rt : Option wq_V → wq_W → Prop} {xt : Nat → wq_W → Prop} {a_what : Int32}  (hR : ∀ (r : Int64) (w : wq_W), sf_I w → sf_m sm_M_books w0 w → rt (some (.inl (.long r))) w) : ks_M_books [.inl (.ref 71), .inl (.int a_what)] w0 rt xt := by
  have hs0 : sf_m sm_M_books w0 w0 := sf_m0
  refine sf_sp (L := [(0, .inl (.ref 71)), (1, .inl (.int a_what))]) rfl rfl ?_
  refine sf_aload rfl ?_
  refine sf_iload rfl ?_
  refine sf_iconst sf_c0 (fun z1 ez1 => ?_)
  refine sf_iconst sf_c1 (fun z2 ez2 => ?_)
  refine sf_call3 rfl rfl rfl ?_
  refine sf_sp (L := [(0, .inl (.int a_what)), (1, .inl (.int z1)), (2, .inl (.int z2))]) rfl rfl ?_
  refine sf_iload rfl ?_
  refine sf_iload rfl ?_
  refine sf_f2_lt (fun h3 => ?_) (fun h3 => ?_)
  · refine sf_iconst sf_c0 (fun z4 ez4 => ?_)
    refine sf_zreturn (by omega) rfl rfl ?_
    refine sf_f1_eq (fun h5 => ?_) (fun h5 => absurd h5 (by omega))
    refine sf_iconst sf_c1 (fun z6 ez6 => ?_)
    refine sf_puti hI0 hs0 rfl rfl (sf_bd _) rfl rfl rfl (fun w7 Iw7 sw7 kw7 uw7 => ?_)
    clear kw7
    refine sf_aload rfl ?_
    refine sf_geti Iw7 rfl rfl (fun v8 lv8 uv8 ev8 => ?_)
    rw [uw7] at ev8
    refine sf_f1_le (fun h9 => absurd h9 (by omega)) (fun h9 => ?_)
    refine sf_lconst (by decide : (0 : Int64).toInt = 0) (fun z10 ez10 => ?_)
    refine sf_lreturn rfl rfl ?_
    exact hR _ _ Iw7 sw7 
  · refine sf_iload rfl ?_
    refine sf_iload rfl ?_
    refine sf_f2_gt (fun h11 => ?_) (fun h11 => ?_)
    · refine sf_iconst sf_c0 (fun z12 ez12 => ?_)
      refine sf_zreturn (by omega) rfl rfl ?_
      refine sf_f1_eq (fun h13 => ?_) (fun h13 => absurd h13 (by omega))
      refine sf_iconst sf_c1 (fun z14 ez14 => ?_)
      refine sf_puti hI0 hs0 rfl rfl (sf_bd _) rfl rfl rfl (fun w15 Iw15 sw15 kw15 uw15 => ?_)
      clear kw15
      refine sf_aload rfl ?_
      refine sf_geti Iw15 rfl rfl (fun v16 lv16 uv16 ev16 => ?_)
      rw [uw15] at ev16
      refine sf_f1_le (fun h17 => absurd h17 (by omega)) (fun h17 => ?_)
      refine sf_lconst (by decide : (0 : Int64).toInt = 0) (fun z18 ez18 => ?_)
      refine sf_lreturn rfl rfl ?_
      exact hR _ _ Iw15 sw15 
    · refine sf_iconst sf_c1 (fun z19 ez19 => ?_)
      refine sf_zreturn (by omega) rfl rfl ?_
      refine sf_f1_eq (fun h20 => absurd h20 (by omega)) (fun h20 => ?_)
      refine sf_iconst sf_c0 (fun z21 ez21 => ?_)
      refine sf_puti hI0 hs0 rfl rfl (sf_bd _) rfl rfl rfl (fun w22 Iw22 sw22 kw22 uw22 => ?_)
      clear kw22
      refine sf_aload rfl ?_
      refine sf_geti Iw22 rfl rfl (fun v23 lv23 uv23 ev23 => ?_)
      rw [uw22] at ev23
      refine sf_f1_le (fun h24 => ?_) (fun h24 => absurd h24 (by omega))
      refine sf_iload rfl ?_
      refine sf_f1_eq (fun h25 => ?_) (fun h25 => ?_)
      · refine sf_aload rfl ?_
        refine sf_getl Iw22 rfl rfl (fun v26 => ?_)
        refine sf_lreturn rfl rfl ?_
        exact hR _ _ Iw22 sw22 
      · refine sf_aload rfl ?_
        refine sf_getl Iw22 rfl rfl (fun v27 => ?_)
        refine sf_lreturn rfl rfl ?_
        exact hR _ _ Iw22 sw22 
