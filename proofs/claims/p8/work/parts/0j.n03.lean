def sm_M_declare : List Nat := [71, 102, 103, 8100, 8135]
set_option maxRecDepth 100000 in
set_option maxHeartbeats 4000000 in
theorem sc_M_declare {w0 : wq_W} (hI0 : sf_I w0) {rt : Option wq_V → wq_W → Prop} {xt : Nat → wq_W → Prop} {a_when : Int32} {a_clock : Int32}  (hR : ∀ (r : Int32) (w : wq_W), sf_I w → sf_m sm_M_declare w0 w → 0 ≤ r.toInt → r.toInt ≤ 12 → ((((sf_f w 71 0).toInt = 0 ∧ (0 ≤ a_when.toInt ∧ a_when.toInt ≤ 9999 ∧ 0 ≤ a_clock.toInt ∧ a_clock.toInt ≤ 1439) ∧ ((sf_f w0 71 35).toInt < 12) ∧ (sf_f w 71 35).toInt = (sf_f w0 71 35).toInt + 1 ∧ r.toInt = (sf_f w0 71 35).toInt) ∨ ((sf_f w 71 0).toInt = 1 ∧ ¬ (0 ≤ a_when.toInt ∧ a_when.toInt ≤ 9999 ∧ 0 ≤ a_clock.toInt ∧ a_clock.toInt ≤ 1439) ∧ (sf_f w 71 35).toInt = (sf_f w0 71 35).toInt) ∨ ((sf_f w 71 0).toInt = 2 ∧ (0 ≤ a_when.toInt ∧ a_when.toInt ≤ 9999 ∧ 0 ≤ a_clock.toInt ∧ a_clock.toInt ≤ 1439) ∧ ¬ ((sf_f w0 71 35).toInt < 12) ∧ (sf_f w 71 35).toInt = (sf_f w0 71 35).toInt))) → rt (some (.inl (.int r))) w) : ks_M_declare [.inl (.ref 71), .inl (.int a_when), .inl (.int a_clock)] w0 rt xt := by
  have hs0 : sf_m sm_M_declare w0 w0 := sf_m0
  refine sf_sp (L := [(0, .inl (.ref 71)), (1, .inl (.int a_when)), (2, .inl (.int a_clock))]) rfl rfl ?_
  refine sf_aload rfl ?_
  refine sf_iload rfl ?_
  refine sf_iconst sf_c0 (fun z1 ez1 => ?_)
  refine sf_iconst sf_c9999 (fun z2 ez2 => ?_)
  refine sf_call3 rfl rfl rfl ?_
  refine sf_sp (L := [(0, .inl (.int a_when)), (1, .inl (.int z1)), (2, .inl (.int z2))]) rfl rfl ?_
  refine sf_iload rfl ?_
  refine sf_iload rfl ?_
  refine sf_f2_lt (fun h3 => ?_) (fun h3 => ?_)
  · refine sf_iconst sf_c0 (fun z4 ez4 => ?_)
    refine sf_zreturn (by omega) rfl rfl ?_
    refine sf_f1_eq (fun h5 => ?_) (fun h5 => absurd h5 (by omega))
    refine sf_iconst sf_c1 (fun z6 ez6 => ?_)
    refine sf_puti hI0 hs0 rfl rfl (sf_bd _) rfl rfl rfl (fun w7 Iw7 sw7 kw7 uw7 => ?_)
    have c8 := sf_mf kw7 (p := 71) (j := 35) rfl
    clear kw7
    refine sf_aload rfl ?_
    refine sf_geti Iw7 rfl rfl (fun v9 lv9 uv9 ev9 => ?_)
    rw [uw7] at ev9
    refine sf_f1_le (fun h10 => absurd h10 (by omega)) (fun h10 => ?_)
    refine sf_iconst sf_c0 (fun z11 ez11 => ?_)
    refine sf_ireturn rfl rfl ?_
    exact hR _ _ Iw7 sw7 (by omega) (by omega) (by rw [uw7]; rw [c8]; first | (refine Or.inl ⟨by omega, ?_⟩; omega) | (refine Or.inr (Or.inl ⟨by omega, ?_⟩); omega) | (refine Or.inr (Or.inr ⟨by omega, ?_⟩); omega))
  · refine sf_iload rfl ?_
    refine sf_iload rfl ?_
    refine sf_f2_gt (fun h12 => ?_) (fun h12 => ?_)
    · refine sf_iconst sf_c0 (fun z13 ez13 => ?_)
      refine sf_zreturn (by omega) rfl rfl ?_
      refine sf_f1_eq (fun h14 => ?_) (fun h14 => absurd h14 (by omega))
      refine sf_iconst sf_c1 (fun z15 ez15 => ?_)
      refine sf_puti hI0 hs0 rfl rfl (sf_bd _) rfl rfl rfl (fun w16 Iw16 sw16 kw16 uw16 => ?_)
      have c17 := sf_mf kw16 (p := 71) (j := 35) rfl
      clear kw16
      refine sf_aload rfl ?_
      refine sf_geti Iw16 rfl rfl (fun v18 lv18 uv18 ev18 => ?_)
      rw [uw16] at ev18
      refine sf_f1_le (fun h19 => absurd h19 (by omega)) (fun h19 => ?_)
      refine sf_iconst sf_c0 (fun z20 ez20 => ?_)
      refine sf_ireturn rfl rfl ?_
      exact hR _ _ Iw16 sw16 (by omega) (by omega) (by rw [uw16]; rw [c17]; first | (refine Or.inl ⟨by omega, ?_⟩; omega) | (refine Or.inr (Or.inl ⟨by omega, ?_⟩); omega) | (refine Or.inr (Or.inr ⟨by omega, ?_⟩); omega))
    · refine sf_iconst sf_c1 (fun z21 ez21 => ?_)
      refine sf_zreturn (by omega) rfl rfl ?_
      refine sf_f1_eq (fun h22 => absurd h22 (by omega)) (fun h22 => ?_)
      refine sf_iload rfl ?_
      refine sf_iconst sf_c0 (fun z23 ez23 => ?_)
      refine sf_iconst sf_c1439 (fun z24 ez24 => ?_)
      refine sf_call3 rfl rfl rfl ?_
      refine sf_sp (L := [(0, .inl (.int a_clock)), (1, .inl (.int z23)), (2, .inl (.int z24))]) rfl rfl ?_
      refine sf_iload rfl ?_
      refine sf_iload rfl ?_
      refine sf_f2_lt (fun h25 => ?_) (fun h25 => ?_)
      · refine sf_iconst sf_c0 (fun z26 ez26 => ?_)
        refine sf_zreturn (by omega) rfl rfl ?_
        refine sf_f1_eq (fun h27 => ?_) (fun h27 => absurd h27 (by omega))
        refine sf_iconst sf_c1 (fun z28 ez28 => ?_)
        refine sf_puti hI0 hs0 rfl rfl (sf_bd _) rfl rfl rfl (fun w29 Iw29 sw29 kw29 uw29 => ?_)
        have c30 := sf_mf kw29 (p := 71) (j := 35) rfl
        clear kw29
        refine sf_aload rfl ?_
        refine sf_geti Iw29 rfl rfl (fun v31 lv31 uv31 ev31 => ?_)
        rw [uw29] at ev31
        refine sf_f1_le (fun h32 => absurd h32 (by omega)) (fun h32 => ?_)
        refine sf_iconst sf_c0 (fun z33 ez33 => ?_)
        refine sf_ireturn rfl rfl ?_
        exact hR _ _ Iw29 sw29 (by omega) (by omega) (by rw [uw29]; rw [c30]; first | (refine Or.inl ⟨by omega, ?_⟩; omega) | (refine Or.inr (Or.inl ⟨by omega, ?_⟩); omega) | (refine Or.inr (Or.inr ⟨by omega, ?_⟩); omega))
      · refine sf_iload rfl ?_
        refine sf_iload rfl ?_
        refine sf_f2_gt (fun h34 => ?_) (fun h34 => ?_)
        · refine sf_iconst sf_c0 (fun z35 ez35 => ?_)
          refine sf_zreturn (by omega) rfl rfl ?_
          refine sf_f1_eq (fun h36 => ?_) (fun h36 => absurd h36 (by omega))
          refine sf_iconst sf_c1 (fun z37 ez37 => ?_)
          refine sf_puti hI0 hs0 rfl rfl (sf_bd _) rfl rfl rfl (fun w38 Iw38 sw38 kw38 uw38 => ?_)
          have c39 := sf_mf kw38 (p := 71) (j := 35) rfl
          clear kw38
          refine sf_aload rfl ?_
          refine sf_geti Iw38 rfl rfl (fun v40 lv40 uv40 ev40 => ?_)
          rw [uw38] at ev40
          refine sf_f1_le (fun h41 => absurd h41 (by omega)) (fun h41 => ?_)
          refine sf_iconst sf_c0 (fun z42 ez42 => ?_)
          refine sf_ireturn rfl rfl ?_
          exact hR _ _ Iw38 sw38 (by omega) (by omega) (by rw [uw38]; rw [c39]; first | (refine Or.inl ⟨by omega, ?_⟩; omega) | (refine Or.inr (Or.inl ⟨by omega, ?_⟩); omega) | (refine Or.inr (Or.inr ⟨by omega, ?_⟩); omega))
        · refine sf_iconst sf_c1 (fun z43 ez43 => ?_)
          refine sf_zreturn (by omega) rfl rfl ?_
          refine sf_f1_eq (fun h44 => absurd h44 (by omega)) (fun h44 => ?_)
          refine sf_aload rfl ?_
          refine sf_geti hI0 rfl rfl (fun v45 lv45 uv45 ev45 => ?_)
          refine sf_iconst sf_c12 (fun z46 ez46 => ?_)
          refine sf_f2_eq (fun h47 => ?_) (fun h47 => ?_)
          · refine sf_iconst sf_c2 (fun z48 ez48 => ?_)
            refine sf_puti hI0 hs0 rfl rfl (sf_bd _) rfl rfl rfl (fun w49 Iw49 sw49 kw49 uw49 => ?_)
            have c50 := sf_mf kw49 (p := 71) (j := 35) rfl
            clear kw49
            refine sf_aload rfl ?_
            refine sf_geti Iw49 rfl rfl (fun v51 lv51 uv51 ev51 => ?_)
            rw [uw49] at ev51
            refine sf_f1_le (fun h52 => absurd h52 (by omega)) (fun h52 => ?_)
            refine sf_iconst sf_c0 (fun z53 ez53 => ?_)
            refine sf_ireturn rfl rfl ?_
            exact hR _ _ Iw49 sw49 (by omega) (by omega) (by rw [uw49]; rw [c50]; first | (refine Or.inl ⟨by omega, ?_⟩; omega) | (refine Or.inr (Or.inl ⟨by omega, ?_⟩); omega) | (refine Or.inr (Or.inr ⟨by omega, ?_⟩); omega))
          · refine sf_iconst sf_c0 (fun z54 ez54 => ?_)
            refine sf_puti hI0 hs0 rfl rfl (sf_bd _) rfl rfl rfl (fun w55 Iw55 sw55 kw55 uw55 => ?_)
            have c56 := sf_mf kw55 (p := 71) (j := 35) rfl
            clear kw55
            refine sf_aload rfl ?_
            refine sf_geti Iw55 rfl rfl (fun v57 lv57 uv57 ev57 => ?_)
            rw [uw55] at ev57
            refine sf_f1_le (fun h58 => ?_) (fun h58 => absurd h58 (by omega))
            refine sf_aload rfl ?_
            refine sf_getr Iw55 rfl rfl ?_
            refine sf_aload rfl ?_
            refine sf_geti Iw55 rfl rfl (fun v59 lv59 uv59 ev59 => ?_)
            rw [c56] at ev59
            refine sf_iload rfl ?_
            refine sf_iast Iw55 sw55 rfl (by omega) (sf_bd _) rfl rfl (fun w60 Iw60 sw60 kw60 uw60 => ?_)
            have c61 := sf_mf kw60 (p := 71) (j := 0) rfl
            have c62 := sf_mf kw60 (p := 71) (j := 35) rfl
            clear kw60 uw60
            refine sf_aload rfl ?_
            refine sf_getr Iw60 rfl rfl ?_
            refine sf_aload rfl ?_
            refine sf_geti Iw60 rfl rfl (fun v63 lv63 uv63 ev63 => ?_)
            rw [c62, c56] at ev63
            refine sf_iload rfl ?_
            refine sf_iast Iw60 sw60 rfl (by omega) (sf_bd _) rfl rfl (fun w64 Iw64 sw64 kw64 uw64 => ?_)
            have c65 := sf_mf kw64 (p := 71) (j := 0) rfl
            have c66 := sf_mf kw64 (p := 71) (j := 35) rfl
            clear kw64 uw64
            refine sf_aload rfl ?_
            refine sf_dup rfl ?_
            refine sf_geti Iw64 rfl rfl (fun v67 lv67 uv67 ev67 => ?_)
            rw [c66, c62, c56] at ev67
            refine sf_iconst sf_c1 (fun z68 ez68 => ?_)
            refine sf_iadd (by omega) (fun v69 ev69 => ?_)
            refine sf_puti Iw64 sw64 rfl rfl (by omega) rfl rfl rfl (fun w70 Iw70 sw70 kw70 uw70 => ?_)
            have c71 := sf_mf kw70 (p := 71) (j := 0) rfl
            clear kw70
            refine sf_aload rfl ?_
            refine sf_geti Iw70 rfl rfl (fun v72 lv72 uv72 ev72 => ?_)
            rw [uw70] at ev72
            refine sf_iconst sf_c1 (fun z73 ez73 => ?_)
            refine sf_isub (by omega) (fun v74 ev74 => ?_)
            refine sf_ireturn rfl rfl ?_
            exact hR _ _ Iw70 sw70 (by omega) (by omega) (by rw [c71, c65, c61, uw55]; rw [uw70]; first | (refine Or.inl ⟨by omega, ?_⟩; omega) | (refine Or.inr (Or.inl ⟨by omega, ?_⟩); omega) | (refine Or.inr (Or.inr ⟨by omega, ?_⟩); omega))
def sm_M_line : List Nat := [71, 104, 107, 108, 109, 110, 8100]
set_option maxRecDepth 100000 in
set_option maxHeartbeats 4000000 in
theorem sc_M_line {w0 : wq_W} (hI0 : sf_I w0) {rt : Option wq_V → wq_W → Prop} {xt : Nat → wq_W → Prop} {a_d : Int32} {a_good : Int32} {a_land : Int32} {a_units : Int32} {a_kilograms : Int32} {a_price : Int32} {a_held : Int32} (p0 : 0 ≤ a_held.toInt) (p1 : a_held.toInt ≤ 1) (hR : ∀ (r : Int32) (w : wq_W), sf_I w → sf_m sm_M_line w0 w → (-1) ≤ r.toInt → r.toInt ≤ 3 → rt (some (.inl (.int r))) w) : ks_M_line [.inl (.ref 71), .inl (.int a_d), .inl (.int a_good), .inl (.int a_land), .inl (.int a_units), .inl (.int a_kilograms), .inl (.int a_price), .inl (.int a_held)] w0 rt xt := by
  have hs0 : sf_m sm_M_line w0 w0 := sf_m0
  refine sf_sp (L := [(0, .inl (.ref 71)), (1, .inl (.int a_d)), (2, .inl (.int a_good)), (3, .inl (.int a_land)), (4, .inl (.int a_units)), (5, .inl (.int a_kilograms)), (6, .inl (.int a_price)), (7, .inl (.int a_held))]) rfl rfl ?_
  refine sf_aload rfl ?_
  refine sf_iload rfl ?_
  refine sf_call2 rfl rfl rfl ?_
  refine sf_rv hI0 rfl ?_
  refine sf_sp (L := [(0, .inl (.ref 71)), (1, .inl (.int a_d))]) rfl rfl ?_
  refine sf_iload rfl ?_
  refine sf_f1_lt (fun h1 => ?_) (fun h1 => ?_)
  · refine sf_iconst sf_c0 (fun z2 ez2 => ?_)
    refine sf_zreturn (by omega) rfl rfl ?_
    refine sf_f1_eq (fun h3 => ?_) (fun h3 => absurd h3 (by omega))
    refine sf_iconst sf_c0 (fun z4 ez4 => ?_)
    refine sf_istore (L' := [(0, .inl (.ref 71)), (1, .inl (.int a_d)), (2, .inl (.int a_good)), (3, .inl (.int a_land)), (4, .inl (.int a_units)), (5, .inl (.int a_kilograms)), (6, .inl (.int a_price)), (7, .inl (.int a_held))]) rfl ?_
    refine sf_aload rfl ?_
    refine sf_iload rfl ?_
    refine sf_f1_eq (fun h5 => ?_) (fun h5 => absurd h5 (by omega))
    refine sf_iconst sf_c1 (fun z6 ez6 => ?_)
    refine sf_puti hI0 hs0 rfl rfl (sf_bd _) rfl rfl rfl (fun w7 Iw7 sw7 kw7 uw7 => ?_)
    have c8 := sf_ma kw7 (p := 104) rfl
    clear kw7
    refine sf_aload rfl ?_
    refine sf_geti Iw7 rfl rfl (fun v9 lv9 uv9 ev9 => ?_)
    rw [uw7] at ev9
    refine sf_f1_le (fun h10 => absurd h10 (by omega)) (fun h10 => ?_)
    refine sf_iconst sf_c0 (fun z11 ez11 => ?_)
    refine sf_ireturn rfl rfl ?_
    exact hR _ _ Iw7 sw7 (by omega) (by omega) 
  · refine sf_iload rfl ?_
    refine sf_aload rfl ?_
    refine sf_geti hI0 rfl rfl (fun v12 lv12 uv12 ev12 => ?_)
    refine sf_f2_ge (fun h13 => ?_) (fun h13 => ?_)
    · refine sf_iconst sf_c0 (fun z14 ez14 => ?_)
      refine sf_zreturn (by omega) rfl rfl ?_
      refine sf_f1_eq (fun h15 => ?_) (fun h15 => absurd h15 (by omega))
      refine sf_iconst sf_c0 (fun z16 ez16 => ?_)
      refine sf_istore (L' := [(0, .inl (.ref 71)), (1, .inl (.int a_d)), (2, .inl (.int a_good)), (3, .inl (.int a_land)), (4, .inl (.int a_units)), (5, .inl (.int a_kilograms)), (6, .inl (.int a_price)), (7, .inl (.int a_held))]) rfl ?_
      refine sf_aload rfl ?_
      refine sf_iload rfl ?_
      refine sf_f1_eq (fun h17 => ?_) (fun h17 => absurd h17 (by omega))
      refine sf_iconst sf_c1 (fun z18 ez18 => ?_)
      refine sf_puti hI0 hs0 rfl rfl (sf_bd _) rfl rfl rfl (fun w19 Iw19 sw19 kw19 uw19 => ?_)
      have c20 := sf_ma kw19 (p := 104) rfl
      clear kw19
      refine sf_aload rfl ?_
      refine sf_geti Iw19 rfl rfl (fun v21 lv21 uv21 ev21 => ?_)
      rw [uw19] at ev21
      refine sf_f1_le (fun h22 => absurd h22 (by omega)) (fun h22 => ?_)
      refine sf_iconst sf_c0 (fun z23 ez23 => ?_)
      refine sf_ireturn rfl rfl ?_
      exact hR _ _ Iw19 sw19 (by omega) (by omega) 
    · refine sf_iconst sf_c1 (fun z24 ez24 => ?_)
      refine sf_zreturn (by omega) rfl rfl ?_
      refine sf_f1_eq (fun h25 => absurd h25 (by omega)) (fun h25 => ?_)
      refine sf_iload rfl ?_
      refine sf_iconst sf_c0 (fun z26 ez26 => ?_)
      refine sf_iconst sf_c15 (fun z27 ez27 => ?_)
      refine sf_call3 rfl rfl rfl ?_
      refine sf_sp (L := [(0, .inl (.int a_good)), (1, .inl (.int z26)), (2, .inl (.int z27))]) rfl rfl ?_
      refine sf_iload rfl ?_
      refine sf_iload rfl ?_
      refine sf_f2_lt (fun h28 => ?_) (fun h28 => ?_)
      · refine sf_iconst sf_c0 (fun z29 ez29 => ?_)
        refine sf_zreturn (by omega) rfl rfl ?_
        refine sf_f1_eq (fun h30 => ?_) (fun h30 => absurd h30 (by omega))
        refine sf_iconst sf_c0 (fun z31 ez31 => ?_)
        refine sf_istore (L' := [(0, .inl (.ref 71)), (1, .inl (.int a_d)), (2, .inl (.int a_good)), (3, .inl (.int a_land)), (4, .inl (.int a_units)), (5, .inl (.int a_kilograms)), (6, .inl (.int a_price)), (7, .inl (.int a_held))]) rfl ?_
        refine sf_aload rfl ?_
        refine sf_iload rfl ?_
        refine sf_f1_eq (fun h32 => ?_) (fun h32 => absurd h32 (by omega))
        refine sf_iconst sf_c1 (fun z33 ez33 => ?_)
        refine sf_puti hI0 hs0 rfl rfl (sf_bd _) rfl rfl rfl (fun w34 Iw34 sw34 kw34 uw34 => ?_)
        have c35 := sf_ma kw34 (p := 104) rfl
        clear kw34
        refine sf_aload rfl ?_
        refine sf_geti Iw34 rfl rfl (fun v36 lv36 uv36 ev36 => ?_)
        rw [uw34] at ev36
        refine sf_f1_le (fun h37 => absurd h37 (by omega)) (fun h37 => ?_)
        refine sf_iconst sf_c0 (fun z38 ez38 => ?_)
        refine sf_ireturn rfl rfl ?_
        exact hR _ _ Iw34 sw34 (by omega) (by omega) 
      · refine sf_iload rfl ?_
        refine sf_iload rfl ?_
        refine sf_f2_gt (fun h39 => ?_) (fun h39 => ?_)
        · refine sf_iconst sf_c0 (fun z40 ez40 => ?_)
          refine sf_zreturn (by omega) rfl rfl ?_
          refine sf_f1_eq (fun h41 => ?_) (fun h41 => absurd h41 (by omega))
          refine sf_iconst sf_c0 (fun z42 ez42 => ?_)
          refine sf_istore (L' := [(0, .inl (.ref 71)), (1, .inl (.int a_d)), (2, .inl (.int a_good)), (3, .inl (.int a_land)), (4, .inl (.int a_units)), (5, .inl (.int a_kilograms)), (6, .inl (.int a_price)), (7, .inl (.int a_held))]) rfl ?_
          refine sf_aload rfl ?_
          refine sf_iload rfl ?_
          refine sf_f1_eq (fun h43 => ?_) (fun h43 => absurd h43 (by omega))
          refine sf_iconst sf_c1 (fun z44 ez44 => ?_)
          refine sf_puti hI0 hs0 rfl rfl (sf_bd _) rfl rfl rfl (fun w45 Iw45 sw45 kw45 uw45 => ?_)
          have c46 := sf_ma kw45 (p := 104) rfl
          clear kw45
          refine sf_aload rfl ?_
          refine sf_geti Iw45 rfl rfl (fun v47 lv47 uv47 ev47 => ?_)
          rw [uw45] at ev47
          refine sf_f1_le (fun h48 => absurd h48 (by omega)) (fun h48 => ?_)
          refine sf_iconst sf_c0 (fun z49 ez49 => ?_)
          refine sf_ireturn rfl rfl ?_
          exact hR _ _ Iw45 sw45 (by omega) (by omega) 
        · refine sf_iconst sf_c1 (fun z50 ez50 => ?_)
          refine sf_zreturn (by omega) rfl rfl ?_
          refine sf_f1_eq (fun h51 => absurd h51 (by omega)) (fun h51 => ?_)
          refine sf_iload rfl ?_
          refine sf_iconst sf_c0 (fun z52 ez52 => ?_)
          refine sf_iconst sf_c7 (fun z53 ez53 => ?_)
          refine sf_call3 rfl rfl rfl ?_
          refine sf_sp (L := [(0, .inl (.int a_land)), (1, .inl (.int z52)), (2, .inl (.int z53))]) rfl rfl ?_
          refine sf_iload rfl ?_
          refine sf_iload rfl ?_
          refine sf_f2_lt (fun h54 => ?_) (fun h54 => ?_)
          · refine sf_iconst sf_c0 (fun z55 ez55 => ?_)
            refine sf_zreturn (by omega) rfl rfl ?_
            refine sf_f1_eq (fun h56 => ?_) (fun h56 => absurd h56 (by omega))
            refine sf_iconst sf_c0 (fun z57 ez57 => ?_)
            refine sf_istore (L' := [(0, .inl (.ref 71)), (1, .inl (.int a_d)), (2, .inl (.int a_good)), (3, .inl (.int a_land)), (4, .inl (.int a_units)), (5, .inl (.int a_kilograms)), (6, .inl (.int a_price)), (7, .inl (.int a_held))]) rfl ?_
            refine sf_aload rfl ?_
            refine sf_iload rfl ?_
            refine sf_f1_eq (fun h58 => ?_) (fun h58 => absurd h58 (by omega))
            refine sf_iconst sf_c1 (fun z59 ez59 => ?_)
            refine sf_puti hI0 hs0 rfl rfl (sf_bd _) rfl rfl rfl (fun w60 Iw60 sw60 kw60 uw60 => ?_)
            have c61 := sf_ma kw60 (p := 104) rfl
            clear kw60
            refine sf_aload rfl ?_
            refine sf_geti Iw60 rfl rfl (fun v62 lv62 uv62 ev62 => ?_)
            rw [uw60] at ev62
            refine sf_f1_le (fun h63 => absurd h63 (by omega)) (fun h63 => ?_)
            refine sf_iconst sf_c0 (fun z64 ez64 => ?_)
            refine sf_ireturn rfl rfl ?_
            exact hR _ _ Iw60 sw60 (by omega) (by omega) 
          · refine sf_iload rfl ?_
            refine sf_iload rfl ?_
            refine sf_f2_gt (fun h65 => ?_) (fun h65 => ?_)
            · refine sf_iconst sf_c0 (fun z66 ez66 => ?_)
              refine sf_zreturn (by omega) rfl rfl ?_
              refine sf_f1_eq (fun h67 => ?_) (fun h67 => absurd h67 (by omega))
              refine sf_iconst sf_c0 (fun z68 ez68 => ?_)
              refine sf_istore (L' := [(0, .inl (.ref 71)), (1, .inl (.int a_d)), (2, .inl (.int a_good)), (3, .inl (.int a_land)), (4, .inl (.int a_units)), (5, .inl (.int a_kilograms)), (6, .inl (.int a_price)), (7, .inl (.int a_held))]) rfl ?_
              refine sf_aload rfl ?_
              refine sf_iload rfl ?_
              refine sf_f1_eq (fun h69 => ?_) (fun h69 => absurd h69 (by omega))
              refine sf_iconst sf_c1 (fun z70 ez70 => ?_)
              refine sf_puti hI0 hs0 rfl rfl (sf_bd _) rfl rfl rfl (fun w71 Iw71 sw71 kw71 uw71 => ?_)
              have c72 := sf_ma kw71 (p := 104) rfl
              clear kw71
              refine sf_aload rfl ?_
              refine sf_geti Iw71 rfl rfl (fun v73 lv73 uv73 ev73 => ?_)
              rw [uw71] at ev73
              refine sf_f1_le (fun h74 => absurd h74 (by omega)) (fun h74 => ?_)
              refine sf_iconst sf_c0 (fun z75 ez75 => ?_)
              refine sf_ireturn rfl rfl ?_
              exact hR _ _ Iw71 sw71 (by omega) (by omega) 
            · refine sf_iconst sf_c1 (fun z76 ez76 => ?_)
              refine sf_zreturn (by omega) rfl rfl ?_
              refine sf_f1_eq (fun h77 => absurd h77 (by omega)) (fun h77 => ?_)
              refine sf_iconst sf_c0 (fun z78 ez78 => ?_)
              refine sf_iload rfl ?_
              refine sf_call2 rfl rfl rfl ?_
              refine sf_sp (L := [(0, .inl (.int z78)), (1, .inl (.int a_units))]) rfl rfl ?_
              refine sf_iload rfl ?_
              refine sf_f1_eq (fun h79 => ?_) (fun h79 => absurd h79 (by omega))
              refine sf_iload rfl ?_
              refine sf_iconst sf_c1 (fun z80 ez80 => ?_)
              refine sf_f2_lt (fun h81 => ?_) (fun h81 => ?_)
              · refine sf_iconst sf_c0 (fun z82 ez82 => ?_)
                refine sf_zreturn (by omega) rfl rfl ?_
                refine sf_f1_eq (fun h83 => ?_) (fun h83 => absurd h83 (by omega))
                refine sf_iconst sf_c0 (fun z84 ez84 => ?_)
                refine sf_istore (L' := [(0, .inl (.ref 71)), (1, .inl (.int a_d)), (2, .inl (.int a_good)), (3, .inl (.int a_land)), (4, .inl (.int a_units)), (5, .inl (.int a_kilograms)), (6, .inl (.int a_price)), (7, .inl (.int a_held))]) rfl ?_
                refine sf_aload rfl ?_
                refine sf_iload rfl ?_
                refine sf_f1_eq (fun h85 => ?_) (fun h85 => absurd h85 (by omega))
                refine sf_iconst sf_c1 (fun z86 ez86 => ?_)
                refine sf_puti hI0 hs0 rfl rfl (sf_bd _) rfl rfl rfl (fun w87 Iw87 sw87 kw87 uw87 => ?_)
                have c88 := sf_ma kw87 (p := 104) rfl
                clear kw87
                refine sf_aload rfl ?_
                refine sf_geti Iw87 rfl rfl (fun v89 lv89 uv89 ev89 => ?_)
                rw [uw87] at ev89
                refine sf_f1_le (fun h90 => absurd h90 (by omega)) (fun h90 => ?_)
                refine sf_iconst sf_c0 (fun z91 ez91 => ?_)
                refine sf_ireturn rfl rfl ?_
                exact hR _ _ Iw87 sw87 (by omega) (by omega) 
              · refine sf_iload rfl ?_
                refine sf_iconst sf_c1000 (fun z92 ez92 => ?_)
                refine sf_f2_gt (fun h93 => ?_) (fun h93 => ?_)
                · refine sf_iconst sf_c0 (fun z94 ez94 => ?_)
                  refine sf_zreturn (by omega) rfl rfl ?_
                  refine sf_f1_eq (fun h95 => ?_) (fun h95 => absurd h95 (by omega))
                  refine sf_iconst sf_c0 (fun z96 ez96 => ?_)
                  refine sf_istore (L' := [(0, .inl (.ref 71)), (1, .inl (.int a_d)), (2, .inl (.int a_good)), (3, .inl (.int a_land)), (4, .inl (.int a_units)), (5, .inl (.int a_kilograms)), (6, .inl (.int a_price)), (7, .inl (.int a_held))]) rfl ?_
                  refine sf_aload rfl ?_
                  refine sf_iload rfl ?_
                  refine sf_f1_eq (fun h97 => ?_) (fun h97 => absurd h97 (by omega))
                  refine sf_iconst sf_c1 (fun z98 ez98 => ?_)
                  refine sf_puti hI0 hs0 rfl rfl (sf_bd _) rfl rfl rfl (fun w99 Iw99 sw99 kw99 uw99 => ?_)
                  have c100 := sf_ma kw99 (p := 104) rfl
                  clear kw99
                  refine sf_aload rfl ?_
                  refine sf_geti Iw99 rfl rfl (fun v101 lv101 uv101 ev101 => ?_)
                  rw [uw99] at ev101
                  refine sf_f1_le (fun h102 => absurd h102 (by omega)) (fun h102 => ?_)
                  refine sf_iconst sf_c0 (fun z103 ez103 => ?_)
                  refine sf_ireturn rfl rfl ?_
                  exact hR _ _ Iw99 sw99 (by omega) (by omega) 
                · refine sf_iconst sf_c1 (fun z104 ez104 => ?_)
                  refine sf_zreturn (by omega) rfl rfl ?_
                  refine sf_f1_eq (fun h105 => absurd h105 (by omega)) (fun h105 => ?_)
                  refine sf_iconst sf_c1 (fun z106 ez106 => ?_)
                  refine sf_iload rfl ?_
                  refine sf_call2 rfl rfl rfl ?_
                  refine sf_sp (L := [(0, .inl (.int z106)), (1, .inl (.int a_kilograms))]) rfl rfl ?_
                  refine sf_iload rfl ?_
                  refine sf_f1_eq (fun h107 => absurd h107 (by omega)) (fun h107 => ?_)
                  refine sf_iload rfl ?_
                  refine sf_f1_lt (fun h108 => ?_) (fun h108 => ?_)
                  · refine sf_iconst sf_c0 (fun z109 ez109 => ?_)
                    refine sf_zreturn (by omega) rfl rfl ?_
                    refine sf_f1_eq (fun h110 => ?_) (fun h110 => absurd h110 (by omega))
                    refine sf_iconst sf_c0 (fun z111 ez111 => ?_)
                    refine sf_istore (L' := [(0, .inl (.ref 71)), (1, .inl (.int a_d)), (2, .inl (.int a_good)), (3, .inl (.int a_land)), (4, .inl (.int a_units)), (5, .inl (.int a_kilograms)), (6, .inl (.int a_price)), (7, .inl (.int a_held))]) rfl ?_
                    refine sf_aload rfl ?_
                    refine sf_iload rfl ?_
                    refine sf_f1_eq (fun h112 => ?_) (fun h112 => absurd h112 (by omega))
                    refine sf_iconst sf_c1 (fun z113 ez113 => ?_)
                    refine sf_puti hI0 hs0 rfl rfl (sf_bd _) rfl rfl rfl (fun w114 Iw114 sw114 kw114 uw114 => ?_)
                    have c115 := sf_ma kw114 (p := 104) rfl
                    clear kw114
                    refine sf_aload rfl ?_
                    refine sf_geti Iw114 rfl rfl (fun v116 lv116 uv116 ev116 => ?_)
                    rw [uw114] at ev116
                    refine sf_f1_le (fun h117 => absurd h117 (by omega)) (fun h117 => ?_)
                    refine sf_iconst sf_c0 (fun z118 ez118 => ?_)
                    refine sf_ireturn rfl rfl ?_
                    exact hR _ _ Iw114 sw114 (by omega) (by omega) 
                  · refine sf_iload rfl ?_
                    refine sf_iload rfl ?_
                    refine sf_iconst sf_c1 (fun z119 ez119 => ?_)
                    refine sf_f2_eq (fun h120 => ?_) (fun h120 => absurd h120 (by omega))
                    refine sf_iconst sf_cl1000000 (fun z121 ez121 => ?_)
                    refine sf_f2_gt (fun h122 => ?_) (fun h122 => ?_)
                    · refine sf_iconst sf_c0 (fun z123 ez123 => ?_)
                      refine sf_zreturn (by omega) rfl rfl ?_
                      refine sf_f1_eq (fun h124 => ?_) (fun h124 => absurd h124 (by omega))
                      refine sf_iconst sf_c0 (fun z125 ez125 => ?_)
                      refine sf_istore (L' := [(0, .inl (.ref 71)), (1, .inl (.int a_d)), (2, .inl (.int a_good)), (3, .inl (.int a_land)), (4, .inl (.int a_units)), (5, .inl (.int a_kilograms)), (6, .inl (.int a_price)), (7, .inl (.int a_held))]) rfl ?_
                      refine sf_aload rfl ?_
                      refine sf_iload rfl ?_
                      refine sf_f1_eq (fun h126 => ?_) (fun h126 => absurd h126 (by omega))
                      refine sf_iconst sf_c1 (fun z127 ez127 => ?_)
                      refine sf_puti hI0 hs0 rfl rfl (sf_bd _) rfl rfl rfl (fun w128 Iw128 sw128 kw128 uw128 => ?_)
                      have c129 := sf_ma kw128 (p := 104) rfl
                      clear kw128
                      refine sf_aload rfl ?_
                      refine sf_geti Iw128 rfl rfl (fun v130 lv130 uv130 ev130 => ?_)
                      rw [uw128] at ev130
                      refine sf_f1_le (fun h131 => absurd h131 (by omega)) (fun h131 => ?_)
                      refine sf_iconst sf_c0 (fun z132 ez132 => ?_)
                      refine sf_ireturn rfl rfl ?_
                      exact hR _ _ Iw128 sw128 (by omega) (by omega) 
                    · refine sf_iconst sf_c1 (fun z133 ez133 => ?_)
                      refine sf_zreturn (by omega) rfl rfl ?_
                      refine sf_f1_eq (fun h134 => absurd h134 (by omega)) (fun h134 => ?_)
                      refine sf_iconst sf_c2 (fun z135 ez135 => ?_)
                      refine sf_iload rfl ?_
                      refine sf_call2 rfl rfl rfl ?_
                      refine sf_sp (L := [(0, .inl (.int z135)), (1, .inl (.int a_price))]) rfl rfl ?_
                      refine sf_iload rfl ?_
                      refine sf_f1_eq (fun h136 => absurd h136 (by omega)) (fun h136 => ?_)
                      refine sf_iload rfl ?_
                      refine sf_f1_lt (fun h137 => ?_) (fun h137 => ?_)
                      · refine sf_iconst sf_c0 (fun z138 ez138 => ?_)
                        refine sf_zreturn (by omega) rfl rfl ?_
                        refine sf_f1_eq (fun h139 => ?_) (fun h139 => absurd h139 (by omega))
                        refine sf_iconst sf_c0 (fun z140 ez140 => ?_)
                        refine sf_istore (L' := [(0, .inl (.ref 71)), (1, .inl (.int a_d)), (2, .inl (.int a_good)), (3, .inl (.int a_land)), (4, .inl (.int a_units)), (5, .inl (.int a_kilograms)), (6, .inl (.int a_price)), (7, .inl (.int a_held))]) rfl ?_
                        refine sf_aload rfl ?_
                        refine sf_iload rfl ?_
                        refine sf_f1_eq (fun h141 => ?_) (fun h141 => absurd h141 (by omega))
                        refine sf_iconst sf_c1 (fun z142 ez142 => ?_)
                        refine sf_puti hI0 hs0 rfl rfl (sf_bd _) rfl rfl rfl (fun w143 Iw143 sw143 kw143 uw143 => ?_)
                        have c144 := sf_ma kw143 (p := 104) rfl
                        clear kw143
                        refine sf_aload rfl ?_
                        refine sf_geti Iw143 rfl rfl (fun v145 lv145 uv145 ev145 => ?_)
                        rw [uw143] at ev145
                        refine sf_f1_le (fun h146 => absurd h146 (by omega)) (fun h146 => ?_)
                        refine sf_iconst sf_c0 (fun z147 ez147 => ?_)
                        refine sf_ireturn rfl rfl ?_
                        exact hR _ _ Iw143 sw143 (by omega) (by omega) 
                      · refine sf_iload rfl ?_
                        refine sf_iload rfl ?_
                        refine sf_iconst sf_c1 (fun z148 ez148 => ?_)
                        refine sf_f2_eq (fun h149 => absurd h149 (by omega)) (fun h149 => ?_)
                        refine sf_iconst sf_cl100000000 (fun z150 ez150 => ?_)
                        refine sf_f2_gt (fun h151 => ?_) (fun h151 => ?_)
                        · refine sf_iconst sf_c0 (fun z152 ez152 => ?_)
                          refine sf_zreturn (by omega) rfl rfl ?_
                          refine sf_f1_eq (fun h153 => ?_) (fun h153 => absurd h153 (by omega))
                          refine sf_iconst sf_c0 (fun z154 ez154 => ?_)
                          refine sf_istore (L' := [(0, .inl (.ref 71)), (1, .inl (.int a_d)), (2, .inl (.int a_good)), (3, .inl (.int a_land)), (4, .inl (.int a_units)), (5, .inl (.int a_kilograms)), (6, .inl (.int a_price)), (7, .inl (.int a_held))]) rfl ?_
                          refine sf_aload rfl ?_
                          refine sf_iload rfl ?_
                          refine sf_f1_eq (fun h155 => ?_) (fun h155 => absurd h155 (by omega))
                          refine sf_iconst sf_c1 (fun z156 ez156 => ?_)
                          refine sf_puti hI0 hs0 rfl rfl (sf_bd _) rfl rfl rfl (fun w157 Iw157 sw157 kw157 uw157 => ?_)
                          have c158 := sf_ma kw157 (p := 104) rfl
                          clear kw157
                          refine sf_aload rfl ?_
                          refine sf_geti Iw157 rfl rfl (fun v159 lv159 uv159 ev159 => ?_)
                          rw [uw157] at ev159
                          refine sf_f1_le (fun h160 => absurd h160 (by omega)) (fun h160 => ?_)
                          refine sf_iconst sf_c0 (fun z161 ez161 => ?_)
                          refine sf_ireturn rfl rfl ?_
                          exact hR _ _ Iw157 sw157 (by omega) (by omega) 
                        · refine sf_iconst sf_c1 (fun z162 ez162 => ?_)
                          refine sf_zreturn (by omega) rfl rfl ?_
                          refine sf_f1_eq (fun h163 => absurd h163 (by omega)) (fun h163 => ?_)
                          refine sf_iconst sf_c1 (fun z164 ez164 => ?_)
                          refine sf_istore (L' := [(0, .inl (.ref 71)), (1, .inl (.int a_d)), (2, .inl (.int a_good)), (3, .inl (.int a_land)), (4, .inl (.int a_units)), (5, .inl (.int a_kilograms)), (6, .inl (.int a_price)), (7, .inl (.int a_held))]) rfl ?_
                          refine sf_aload rfl ?_
                          refine sf_iload rfl ?_
                          refine sf_f1_eq (fun h165 => absurd h165 (by omega)) (fun h165 => ?_)
                          refine sf_aload rfl ?_
                          refine sf_getr hI0 rfl rfl ?_
                          refine sf_iload rfl ?_
                          refine sf_zald hI0 rfl (by omega) (fun v166 lv166 uv166 ev166 => ?_)
                          clear ev166
                          refine sf_f1_eq (fun h167 => ?_) (fun h167 => ?_)
                          · refine sf_aload rfl ?_
                            refine sf_getr hI0 rfl rfl ?_
                            refine sf_iload rfl ?_
                            refine sf_iald hI0 rfl (by omega) (fun v168 lv168 uv168 ev168 => ?_)
                            refine sf_iconst sf_c4 (fun z169 ez169 => ?_)
                            refine sf_f2_eq (fun h170 => ?_) (fun h170 => ?_)
                            · refine sf_iconst sf_c2 (fun z171 ez171 => ?_)
                              refine sf_puti hI0 hs0 rfl rfl (sf_bd _) rfl rfl rfl (fun w172 Iw172 sw172 kw172 uw172 => ?_)
                              have c173 := sf_ma kw172 (p := 104) rfl
                              clear kw172
                              refine sf_aload rfl ?_
                              refine sf_geti Iw172 rfl rfl (fun v174 lv174 uv174 ev174 => ?_)
                              rw [uw172] at ev174
                              refine sf_f1_le (fun h175 => absurd h175 (by omega)) (fun h175 => ?_)
                              refine sf_iconst sf_c0 (fun z176 ez176 => ?_)
                              refine sf_ireturn rfl rfl ?_
                              exact hR _ _ Iw172 sw172 (by omega) (by omega) 
                            · refine sf_iconst sf_c0 (fun z177 ez177 => ?_)
                              refine sf_puti hI0 hs0 rfl rfl (sf_bd _) rfl rfl rfl (fun w178 Iw178 sw178 kw178 uw178 => ?_)
                              have c179 := sf_ma kw178 (p := 104) rfl
                              clear kw178
                              refine sf_aload rfl ?_
                              refine sf_geti Iw178 rfl rfl (fun v180 lv180 uv180 ev180 => ?_)
                              rw [uw178] at ev180
                              refine sf_f1_le (fun h181 => ?_) (fun h181 => absurd h181 (by omega))
                              refine sf_iconst sf_c4 (fun z182 ez182 => ?_)
                              refine sf_iload rfl ?_
                              refine sf_imull (n := 4) (by omega) (by omega) (fun v183 ev183 => ?_)
                              refine sf_aload rfl ?_
                              refine sf_getr Iw178 rfl rfl ?_
                              refine sf_iload rfl ?_
                              refine sf_iald Iw178 rfl (by omega) (fun v184 lv184 uv184 ev184 => ?_)
                              rw [c179] at ev184
                              refine sf_iadd (by omega) (fun v185 ev185 => ?_)
                              refine sf_istore (L' := [(8, .inl (.int z164)), (0, .inl (.ref 71)), (1, .inl (.int a_d)), (2, .inl (.int a_good)), (3, .inl (.int a_land)), (4, .inl (.int a_units)), (5, .inl (.int a_kilograms)), (6, .inl (.int a_price)), (7, .inl (.int a_held))]) rfl ?_
                              refine sf_aload rfl ?_
                              refine sf_getr Iw178 rfl rfl ?_
                              refine sf_iload rfl ?_
                              refine sf_iload rfl ?_
                              refine sf_iast Iw178 sw178 rfl (by omega) (by omega) rfl rfl (fun w186 Iw186 sw186 kw186 uw186 => ?_)
                              have c187 := sf_mf kw186 (p := 71) (j := 0) rfl
                              have c188 := sf_ma kw186 (p := 104) rfl
                              clear kw186 uw186
                              refine sf_aload rfl ?_
                              refine sf_getr Iw186 rfl rfl ?_
                              refine sf_iload rfl ?_
                              refine sf_iload rfl ?_
                              refine sf_iast Iw186 sw186 rfl (by omega) (sf_bd _) rfl rfl (fun w189 Iw189 sw189 kw189 uw189 => ?_)
                              have c190 := sf_mf kw189 (p := 71) (j := 0) rfl
                              have c191 := sf_ma kw189 (p := 104) rfl
                              clear kw189 uw189
                              refine sf_aload rfl ?_
                              refine sf_getr Iw189 rfl rfl ?_
                              refine sf_iload rfl ?_
                              refine sf_iload rfl ?_
                              refine sf_zast Iw189 sw189 rfl (by omega) (by omega) rfl rfl (fun w192 Iw192 sw192 kw192 uw192 => ?_)
                              have c193 := sf_mf kw192 (p := 71) (j := 0) rfl
                              have c194 := sf_ma kw192 (p := 104) rfl
                              clear kw192 uw192
                              refine sf_aload rfl ?_
                              refine sf_getr Iw192 rfl rfl ?_
                              refine sf_iconst sf_c3 (fun z195 ez195 => ?_)
                              refine sf_iload rfl ?_
                              refine sf_imull (n := 3) (by omega) (by omega) (fun v196 ev196 => ?_)
                              refine sf_iload rfl ?_
                              refine sf_iastR Iw192 sw192 rfl (by omega) (sf_bd _) rfl (fun w9 h1 h2 => sf_R_fi Iw192 h1 h2 (by omega) (by omega)) (fun w197 Iw197 sw197 kw197 uw197 => ?_)
                              have c198 := sf_mf kw197 (p := 71) (j := 0) rfl
                              have c199 := sf_ma kw197 (p := 104) rfl
                              clear kw197
                              have gff : 1 ≤ (sf_a w197 110 (12 * a_d.toInt.toNat + 3 * (sf_a w0 104 a_d.toInt.toNat).toInt.toNat)).toInt := by first | (rw [uw197]; unfold upd; rw [if_pos (by omega)]; omega) | (rw [uw197]; unfold upd; rw [if_neg (by omega)]; exact gff)
                              refine sf_aload rfl ?_
                              refine sf_getr Iw197 rfl rfl ?_
                              refine sf_iconst sf_c3 (fun z200 ez200 => ?_)
                              refine sf_iload rfl ?_
                              refine sf_imull (n := 3) (by omega) (by omega) (fun v201 ev201 => ?_)
                              refine sf_iconst sf_c1 (fun z202 ez202 => ?_)
                              refine sf_iadd (by omega) (fun v203 ev203 => ?_)
                              refine sf_iload rfl ?_
                              refine sf_iastR Iw197 sw197 rfl (by omega) (sf_bd _) rfl (fun w9 h1 h2 => sf_R_fi Iw197 h1 h2 (by omega) (by omega)) (fun w204 Iw204 sw204 kw204 uw204 => ?_)
                              have c205 := sf_mf kw204 (p := 71) (j := 0) rfl
                              have c206 := sf_ma kw204 (p := 104) rfl
                              clear kw204
                              have gff : 1 ≤ (sf_a w204 110 (12 * a_d.toInt.toNat + 3 * (sf_a w0 104 a_d.toInt.toNat).toInt.toNat)).toInt := by first | (rw [uw204]; unfold upd; rw [if_pos (by omega)]; omega) | (rw [uw204]; unfold upd; rw [if_neg (by omega)]; exact gff)
                              refine sf_aload rfl ?_
                              refine sf_getr Iw204 rfl rfl ?_
                              refine sf_iconst sf_c3 (fun z207 ez207 => ?_)
                              refine sf_iload rfl ?_
                              refine sf_imull (n := 3) (by omega) (by omega) (fun v208 ev208 => ?_)
                              refine sf_iconst sf_c2 (fun z209 ez209 => ?_)
                              refine sf_iadd (by omega) (fun v210 ev210 => ?_)
                              refine sf_iload rfl ?_
                              refine sf_iastR Iw204 sw204 rfl (by omega) (sf_bd _) rfl (fun w9 h1 h2 => sf_R_fi Iw204 h1 h2 (by omega) (by omega)) (fun w211 Iw211 sw211 kw211 uw211 => ?_)
                              have c212 := sf_mf kw211 (p := 71) (j := 0) rfl
                              have c213 := sf_ma kw211 (p := 104) rfl
                              clear kw211
                              have gff : 1 ≤ (sf_a w211 110 (12 * a_d.toInt.toNat + 3 * (sf_a w0 104 a_d.toInt.toNat).toInt.toNat)).toInt := by first | (rw [uw211]; unfold upd; rw [if_pos (by omega)]; omega) | (rw [uw211]; unfold upd; rw [if_neg (by omega)]; exact gff)
                              refine sf_aload rfl ?_
                              refine sf_getr Iw211 rfl rfl ?_
                              refine sf_iload rfl ?_
                              refine sf_dup2 rfl rfl ?_
                              refine sf_iald Iw211 rfl (by omega) (fun v214 lv214 uv214 ev214 => ?_)
                              rw [c213, c206, c199, c194, c191, c188, c179] at ev214
                              refine sf_iconst sf_c1 (fun z215 ez215 => ?_)
                              refine sf_iadd (by omega) (fun v216 ev216 => ?_)
                              refine sf_iastR Iw211 sw211 rfl (by omega) (by omega) rfl (fun w9 h1 h2 => sf_R_lc Iw211 h1 h2 (by omega) (fun k hk => by by_cases hk2 : (k : Int) < (sf_a w0 104 a_d.toInt.toNat).toInt; (left; rw [c213, c206, c199, c194, c191, c188, c179]; exact hk2); (right; have hk3 : k = (sf_a w0 104 a_d.toInt.toNat).toInt.toNat := (by omega); rw [hk3]; exact gff))) (fun w217 Iw217 sw217 kw217 uw217 => ?_)
                              have c218 := sf_mf kw217 (p := 71) (j := 0) rfl
                              clear kw217 uw217
                              refine sf_aload rfl ?_
                              refine sf_getr Iw217 rfl rfl ?_
                              refine sf_iload rfl ?_
                              refine sf_iald Iw217 rfl (by omega) (fun v219 lv219 uv219 ev219 => ?_)
                              refine sf_iconst sf_c1 (fun z220 ez220 => ?_)
                              refine sf_isub (by omega) (fun v221 ev221 => ?_)
                              refine sf_ireturn rfl rfl ?_
                              exact hR _ _ Iw217 sw217 (by omega) (by omega) 
                          · refine sf_iconst sf_c2 (fun z222 ez222 => ?_)
                            refine sf_puti hI0 hs0 rfl rfl (sf_bd _) rfl rfl rfl (fun w223 Iw223 sw223 kw223 uw223 => ?_)
                            have c224 := sf_ma kw223 (p := 104) rfl
                            clear kw223
                            refine sf_aload rfl ?_
                            refine sf_geti Iw223 rfl rfl (fun v225 lv225 uv225 ev225 => ?_)
                            rw [uw223] at ev225
                            refine sf_f1_le (fun h226 => absurd h226 (by omega)) (fun h226 => ?_)
                            refine sf_iconst sf_c0 (fun z227 ez227 => ?_)
                            refine sf_ireturn rfl rfl ?_
                            exact hR _ _ Iw223 sw223 (by omega) (by omega) 
def sm_M_charge : List Nat := [71, 105, 8100]
set_option maxRecDepth 100000 in
set_option maxHeartbeats 4000000 in
theorem sc_M_charge {w0 : wq_W} (hI0 : sf_I w0) {rt : Option wq_V → wq_W → Prop} {xt : Nat → wq_W → Prop} {a_d : Int32} {a_by : Int32} {a_cents : Int32}  (hR : ∀ (w : wq_W), sf_I w → sf_m sm_M_charge w0 w → rt none w) : ks_M_charge [.inl (.ref 71), .inl (.int a_d), .inl (.int a_by), .inl (.int a_cents)] w0 rt xt := by
  have hs0 : sf_m sm_M_charge w0 w0 := sf_m0
  refine sf_sp (L := [(0, .inl (.ref 71)), (1, .inl (.int a_d)), (2, .inl (.int a_by)), (3, .inl (.int a_cents))]) rfl rfl ?_
  refine sf_aload rfl ?_
  refine sf_aload rfl ?_
  refine sf_iload rfl ?_
  refine sf_call2 rfl rfl rfl ?_
  refine sf_rv hI0 rfl ?_
  refine sf_sp (L := [(0, .inl (.ref 71)), (1, .inl (.int a_d))]) rfl rfl ?_
  refine sf_iload rfl ?_
  refine sf_f1_lt (fun h1 => ?_) (fun h1 => ?_)
  · refine sf_iconst sf_c0 (fun z2 ez2 => ?_)
    refine sf_zreturn (by omega) rfl rfl ?_
    refine sf_f1_eq (fun h3 => ?_) (fun h3 => absurd h3 (by omega))
    refine sf_iconst sf_c1 (fun z4 ez4 => ?_)
    refine sf_puti hI0 hs0 rfl rfl (sf_bd _) rfl rfl rfl (fun w5 Iw5 sw5 kw5 uw5 => ?_)
    clear kw5
    refine sf_aload rfl ?_
    refine sf_geti Iw5 rfl rfl (fun v6 lv6 uv6 ev6 => ?_)
    rw [uw5] at ev6
    refine sf_f1_eq (fun h7 => absurd h7 (by omega)) (fun h7 => ?_)
    refine sf_vreturn rfl rfl ?_
    exact hR _ Iw5 sw5 
  · refine sf_iload rfl ?_
    refine sf_aload rfl ?_
    refine sf_geti hI0 rfl rfl (fun v8 lv8 uv8 ev8 => ?_)
    refine sf_f2_ge (fun h9 => ?_) (fun h9 => ?_)
    · refine sf_iconst sf_c0 (fun z10 ez10 => ?_)
      refine sf_zreturn (by omega) rfl rfl ?_
      refine sf_f1_eq (fun h11 => ?_) (fun h11 => absurd h11 (by omega))
      refine sf_iconst sf_c1 (fun z12 ez12 => ?_)
      refine sf_puti hI0 hs0 rfl rfl (sf_bd _) rfl rfl rfl (fun w13 Iw13 sw13 kw13 uw13 => ?_)
      clear kw13
      refine sf_aload rfl ?_
      refine sf_geti Iw13 rfl rfl (fun v14 lv14 uv14 ev14 => ?_)
      rw [uw13] at ev14
      refine sf_f1_eq (fun h15 => absurd h15 (by omega)) (fun h15 => ?_)
      refine sf_vreturn rfl rfl ?_
      exact hR _ Iw13 sw13 
    · refine sf_iconst sf_c1 (fun z16 ez16 => ?_)
      refine sf_zreturn (by omega) rfl rfl ?_
      refine sf_f1_eq (fun h17 => absurd h17 (by omega)) (fun h17 => ?_)
      refine sf_iload rfl ?_
      refine sf_iconst sf_c0 (fun z18 ez18 => ?_)
      refine sf_iconst sf_c1 (fun z19 ez19 => ?_)
      refine sf_call3 rfl rfl rfl ?_
      refine sf_sp (L := [(0, .inl (.int a_by)), (1, .inl (.int z18)), (2, .inl (.int z19))]) rfl rfl ?_
      refine sf_iload rfl ?_
      refine sf_iload rfl ?_
      refine sf_f2_lt (fun h20 => ?_) (fun h20 => ?_)
      · refine sf_iconst sf_c0 (fun z21 ez21 => ?_)
        refine sf_zreturn (by omega) rfl rfl ?_
        refine sf_f1_eq (fun h22 => ?_) (fun h22 => absurd h22 (by omega))
        refine sf_iconst sf_c1 (fun z23 ez23 => ?_)
        refine sf_puti hI0 hs0 rfl rfl (sf_bd _) rfl rfl rfl (fun w24 Iw24 sw24 kw24 uw24 => ?_)
        clear kw24
        refine sf_aload rfl ?_
        refine sf_geti Iw24 rfl rfl (fun v25 lv25 uv25 ev25 => ?_)
        rw [uw24] at ev25
        refine sf_f1_eq (fun h26 => absurd h26 (by omega)) (fun h26 => ?_)
        refine sf_vreturn rfl rfl ?_
        exact hR _ Iw24 sw24 
      · refine sf_iload rfl ?_
        refine sf_iload rfl ?_
        refine sf_f2_gt (fun h27 => ?_) (fun h27 => ?_)
        · refine sf_iconst sf_c0 (fun z28 ez28 => ?_)
          refine sf_zreturn (by omega) rfl rfl ?_
          refine sf_f1_eq (fun h29 => ?_) (fun h29 => absurd h29 (by omega))
          refine sf_iconst sf_c1 (fun z30 ez30 => ?_)
          refine sf_puti hI0 hs0 rfl rfl (sf_bd _) rfl rfl rfl (fun w31 Iw31 sw31 kw31 uw31 => ?_)
          clear kw31
          refine sf_aload rfl ?_
          refine sf_geti Iw31 rfl rfl (fun v32 lv32 uv32 ev32 => ?_)
          rw [uw31] at ev32
          refine sf_f1_eq (fun h33 => absurd h33 (by omega)) (fun h33 => ?_)
          refine sf_vreturn rfl rfl ?_
          exact hR _ Iw31 sw31 
        · refine sf_iconst sf_c1 (fun z34 ez34 => ?_)
          refine sf_zreturn (by omega) rfl rfl ?_
          refine sf_f1_eq (fun h35 => absurd h35 (by omega)) (fun h35 => ?_)
          refine sf_iload rfl ?_
          refine sf_iconst sf_c0 (fun z36 ez36 => ?_)
          refine sf_iconst sf_cl10000000 (fun z37 ez37 => ?_)
          refine sf_call3 rfl rfl rfl ?_
          refine sf_sp (L := [(0, .inl (.int a_cents)), (1, .inl (.int z36)), (2, .inl (.int z37))]) rfl rfl ?_
          refine sf_iload rfl ?_
          refine sf_iload rfl ?_
          refine sf_f2_lt (fun h38 => ?_) (fun h38 => ?_)
          · refine sf_iconst sf_c0 (fun z39 ez39 => ?_)
            refine sf_zreturn (by omega) rfl rfl ?_
            refine sf_f1_eq (fun h40 => ?_) (fun h40 => absurd h40 (by omega))
            refine sf_iconst sf_c1 (fun z41 ez41 => ?_)
            refine sf_puti hI0 hs0 rfl rfl (sf_bd _) rfl rfl rfl (fun w42 Iw42 sw42 kw42 uw42 => ?_)
            clear kw42
            refine sf_aload rfl ?_
            refine sf_geti Iw42 rfl rfl (fun v43 lv43 uv43 ev43 => ?_)
            rw [uw42] at ev43
            refine sf_f1_eq (fun h44 => absurd h44 (by omega)) (fun h44 => ?_)
            refine sf_vreturn rfl rfl ?_
            exact hR _ Iw42 sw42 
          · refine sf_iload rfl ?_
            refine sf_iload rfl ?_
            refine sf_f2_gt (fun h45 => ?_) (fun h45 => ?_)
            · refine sf_iconst sf_c0 (fun z46 ez46 => ?_)
              refine sf_zreturn (by omega) rfl rfl ?_
              refine sf_f1_eq (fun h47 => ?_) (fun h47 => absurd h47 (by omega))
              refine sf_iconst sf_c1 (fun z48 ez48 => ?_)
              refine sf_puti hI0 hs0 rfl rfl (sf_bd _) rfl rfl rfl (fun w49 Iw49 sw49 kw49 uw49 => ?_)
              clear kw49
              refine sf_aload rfl ?_
              refine sf_geti Iw49 rfl rfl (fun v50 lv50 uv50 ev50 => ?_)
              rw [uw49] at ev50
              refine sf_f1_eq (fun h51 => absurd h51 (by omega)) (fun h51 => ?_)
              refine sf_vreturn rfl rfl ?_
              exact hR _ Iw49 sw49 
            · refine sf_iconst sf_c1 (fun z52 ez52 => ?_)
              refine sf_zreturn (by omega) rfl rfl ?_
              refine sf_f1_eq (fun h53 => absurd h53 (by omega)) (fun h53 => ?_)
              refine sf_aload rfl ?_
              refine sf_getr hI0 rfl rfl ?_
              refine sf_iload rfl ?_
              refine sf_zald hI0 rfl (by omega) (fun v54 lv54 uv54 ev54 => ?_)
              clear ev54
              refine sf_f1_eq (fun h55 => ?_) (fun h55 => ?_)
              · refine sf_iconst sf_c0 (fun z56 ez56 => ?_)
                refine sf_puti hI0 hs0 rfl rfl (sf_bd _) rfl rfl rfl (fun w57 Iw57 sw57 kw57 uw57 => ?_)
                clear kw57
                refine sf_aload rfl ?_
                refine sf_geti Iw57 rfl rfl (fun v58 lv58 uv58 ev58 => ?_)
                rw [uw57] at ev58
                refine sf_f1_eq (fun h59 => ?_) (fun h59 => absurd h59 (by omega))
                refine sf_aload rfl ?_
                refine sf_getr Iw57 rfl rfl ?_
                refine sf_iconst sf_c2 (fun z60 ez60 => ?_)
                refine sf_iload rfl ?_
                refine sf_imull (n := 2) (by omega) (by omega) (fun v61 ev61 => ?_)
                refine sf_iload rfl ?_
                refine sf_iadd (by omega) (fun v62 ev62 => ?_)
                refine sf_iload rfl ?_
                refine sf_iast Iw57 sw57 rfl (by omega) (sf_bd _) rfl rfl (fun w63 Iw63 sw63 kw63 uw63 => ?_)
                have c64 := sf_mf kw63 (p := 71) (j := 0) rfl
                clear kw63 uw63
                refine sf_vreturn rfl rfl ?_
                exact hR _ Iw63 sw63 
              · refine sf_iconst sf_c2 (fun z65 ez65 => ?_)
                refine sf_puti hI0 hs0 rfl rfl (sf_bd _) rfl rfl rfl (fun w66 Iw66 sw66 kw66 uw66 => ?_)
                clear kw66
                refine sf_aload rfl ?_
                refine sf_geti Iw66 rfl rfl (fun v67 lv67 uv67 ev67 => ?_)
                rw [uw66] at ev67
                refine sf_f1_eq (fun h68 => absurd h68 (by omega)) (fun h68 => ?_)
                refine sf_vreturn rfl rfl ?_
                exact hR _ Iw66 sw66 
def sm_M_lineOf : List Nat := [71, 92, 111, 112, 117, 118, 119, 120, 8100]
set_option maxRecDepth 100000 in
set_option maxHeartbeats 4000000 in
theorem sc_M_lineOf {w0 : wq_W} (hI0 : sf_I w0) {rt : Option wq_V → wq_W → Prop} {xt : Nat → wq_W → Prop} {a_d : Int32} {a_l : Int32} {a_what : Int32}  (hR : ∀ (r : Int64) (w : wq_W), sf_I w → sf_m sm_M_lineOf w0 w → rt (some (.inl (.long r))) w) : ks_M_lineOf [.inl (.ref 71), .inl (.int a_d), .inl (.int a_l), .inl (.int a_what)] w0 rt xt := by
  have hs0 : sf_m sm_M_lineOf w0 w0 := sf_m0
  refine sf_sp (L := [(0, .inl (.ref 71)), (1, .inl (.int a_d)), (2, .inl (.int a_l)), (3, .inl (.int a_what))]) rfl rfl ?_
  refine sf_aload rfl ?_
  refine sf_aload rfl ?_
  refine sf_iload rfl ?_
  refine sf_iload rfl ?_
  refine sf_call3 rfl rfl rfl ?_
  refine sf_rv hI0 rfl ?_
  refine sf_sp (L := [(0, .inl (.ref 71)), (1, .inl (.int a_d)), (2, .inl (.int a_l))]) rfl rfl ?_
  refine sf_aload rfl ?_
  refine sf_iload rfl ?_
  refine sf_call2 rfl rfl rfl ?_
  refine sf_rv hI0 rfl ?_
  refine sf_sp (L := [(0, .inl (.ref 71)), (1, .inl (.int a_d))]) rfl rfl ?_
  refine sf_iload rfl ?_
  refine sf_f1_lt (fun h1 => ?_) (fun h1 => ?_)
  · refine sf_iconst sf_c0 (fun z2 ez2 => ?_)
    refine sf_zreturn (by omega) rfl rfl ?_
    refine sf_f1_eq (fun h3 => ?_) (fun h3 => absurd h3 (by omega))
    refine sf_iconst sf_c0 (fun z4 ez4 => ?_)
    refine sf_zreturn (by omega) rfl rfl ?_
    refine sf_f1_eq (fun h5 => ?_) (fun h5 => absurd h5 (by omega))
    refine sf_iconst sf_c1 (fun z6 ez6 => ?_)
    refine sf_puti hI0 hs0 rfl rfl (sf_bd _) rfl rfl rfl (fun w7 Iw7 sw7 kw7 uw7 => ?_)
    have c8 := sf_ma kw7 (p := 117) rfl
    clear kw7
    refine sf_aload rfl ?_
    refine sf_geti Iw7 rfl rfl (fun v9 lv9 uv9 ev9 => ?_)
    rw [uw7] at ev9
    refine sf_f1_le (fun h10 => absurd h10 (by omega)) (fun h10 => ?_)
    refine sf_lconst (by decide : (0 : Int64).toInt = 0) (fun z11 ez11 => ?_)
    refine sf_lreturn rfl rfl ?_
    exact hR _ _ Iw7 sw7 
  · refine sf_iload rfl ?_
    refine sf_aload rfl ?_
    refine sf_geti hI0 rfl rfl (fun v12 lv12 uv12 ev12 => ?_)
    refine sf_f2_ge (fun h13 => ?_) (fun h13 => ?_)
    · refine sf_iconst sf_c0 (fun z14 ez14 => ?_)
      refine sf_zreturn (by omega) rfl rfl ?_
      refine sf_f1_eq (fun h15 => ?_) (fun h15 => absurd h15 (by omega))
      refine sf_iconst sf_c0 (fun z16 ez16 => ?_)
      refine sf_zreturn (by omega) rfl rfl ?_
      refine sf_f1_eq (fun h17 => ?_) (fun h17 => absurd h17 (by omega))
      refine sf_iconst sf_c1 (fun z18 ez18 => ?_)
      refine sf_puti hI0 hs0 rfl rfl (sf_bd _) rfl rfl rfl (fun w19 Iw19 sw19 kw19 uw19 => ?_)
      have c20 := sf_ma kw19 (p := 117) rfl
      clear kw19
      refine sf_aload rfl ?_
      refine sf_geti Iw19 rfl rfl (fun v21 lv21 uv21 ev21 => ?_)
      rw [uw19] at ev21
      refine sf_f1_le (fun h22 => absurd h22 (by omega)) (fun h22 => ?_)
      refine sf_lconst (by decide : (0 : Int64).toInt = 0) (fun z23 ez23 => ?_)
      refine sf_lreturn rfl rfl ?_
      exact hR _ _ Iw19 sw19 
    · refine sf_iconst sf_c1 (fun z24 ez24 => ?_)
      refine sf_zreturn (by omega) rfl rfl ?_
      refine sf_f1_eq (fun h25 => absurd h25 (by omega)) (fun h25 => ?_)
      refine sf_iload rfl ?_
      refine sf_f1_lt (fun h26 => ?_) (fun h26 => ?_)
      · refine sf_iconst sf_c0 (fun z27 ez27 => ?_)
        refine sf_zreturn (by omega) rfl rfl ?_
        refine sf_f1_eq (fun h28 => ?_) (fun h28 => absurd h28 (by omega))
        refine sf_iconst sf_c1 (fun z29 ez29 => ?_)
        refine sf_puti hI0 hs0 rfl rfl (sf_bd _) rfl rfl rfl (fun w30 Iw30 sw30 kw30 uw30 => ?_)
        have c31 := sf_ma kw30 (p := 117) rfl
        clear kw30
        refine sf_aload rfl ?_
        refine sf_geti Iw30 rfl rfl (fun v32 lv32 uv32 ev32 => ?_)
        rw [uw30] at ev32
        refine sf_f1_le (fun h33 => absurd h33 (by omega)) (fun h33 => ?_)
        refine sf_lconst (by decide : (0 : Int64).toInt = 0) (fun z34 ez34 => ?_)
        refine sf_lreturn rfl rfl ?_
        exact hR _ _ Iw30 sw30 
      · refine sf_iload rfl ?_
        refine sf_aload rfl ?_
        refine sf_getr hI0 rfl rfl ?_
        refine sf_iload rfl ?_
        refine sf_iald hI0 rfl (by omega) (fun v35 lv35 uv35 ev35 => ?_)
        refine sf_f2_ge (fun h36 => ?_) (fun h36 => ?_)
        · refine sf_iconst sf_c0 (fun z37 ez37 => ?_)
          refine sf_zreturn (by omega) rfl rfl ?_
          refine sf_f1_eq (fun h38 => ?_) (fun h38 => absurd h38 (by omega))
          refine sf_iconst sf_c1 (fun z39 ez39 => ?_)
          refine sf_puti hI0 hs0 rfl rfl (sf_bd _) rfl rfl rfl (fun w40 Iw40 sw40 kw40 uw40 => ?_)
          have c41 := sf_ma kw40 (p := 117) rfl
          clear kw40
          refine sf_aload rfl ?_
          refine sf_geti Iw40 rfl rfl (fun v42 lv42 uv42 ev42 => ?_)
          rw [uw40] at ev42
          refine sf_f1_le (fun h43 => absurd h43 (by omega)) (fun h43 => ?_)
          refine sf_lconst (by decide : (0 : Int64).toInt = 0) (fun z44 ez44 => ?_)
          refine sf_lreturn rfl rfl ?_
          exact hR _ _ Iw40 sw40 
        · refine sf_iconst sf_c1 (fun z45 ez45 => ?_)
          refine sf_zreturn (by omega) rfl rfl ?_
          refine sf_f1_eq (fun h46 => absurd h46 (by omega)) (fun h46 => ?_)
          refine sf_iload rfl ?_
          refine sf_iconst sf_c0 (fun z47 ez47 => ?_)
          refine sf_iconst sf_c2 (fun z48 ez48 => ?_)
          refine sf_call3 rfl rfl rfl ?_
          refine sf_sp (L := [(0, .inl (.int a_what)), (1, .inl (.int z47)), (2, .inl (.int z48))]) rfl rfl ?_
          refine sf_iload rfl ?_
          refine sf_iload rfl ?_
          refine sf_f2_lt (fun h49 => ?_) (fun h49 => ?_)
          · refine sf_iconst sf_c0 (fun z50 ez50 => ?_)
            refine sf_zreturn (by omega) rfl rfl ?_
            refine sf_f1_eq (fun h51 => ?_) (fun h51 => absurd h51 (by omega))
            refine sf_iconst sf_c1 (fun z52 ez52 => ?_)
            refine sf_puti hI0 hs0 rfl rfl (sf_bd _) rfl rfl rfl (fun w53 Iw53 sw53 kw53 uw53 => ?_)
            have c54 := sf_ma kw53 (p := 117) rfl
            clear kw53
            refine sf_aload rfl ?_
            refine sf_geti Iw53 rfl rfl (fun v55 lv55 uv55 ev55 => ?_)
            rw [uw53] at ev55
            refine sf_f1_le (fun h56 => absurd h56 (by omega)) (fun h56 => ?_)
            refine sf_lconst (by decide : (0 : Int64).toInt = 0) (fun z57 ez57 => ?_)
            refine sf_lreturn rfl rfl ?_
            exact hR _ _ Iw53 sw53 
          · refine sf_iload rfl ?_
            refine sf_iload rfl ?_
            refine sf_f2_gt (fun h58 => ?_) (fun h58 => ?_)
            · refine sf_iconst sf_c0 (fun z59 ez59 => ?_)
              refine sf_zreturn (by omega) rfl rfl ?_
              refine sf_f1_eq (fun h60 => ?_) (fun h60 => absurd h60 (by omega))
              refine sf_iconst sf_c1 (fun z61 ez61 => ?_)
              refine sf_puti hI0 hs0 rfl rfl (sf_bd _) rfl rfl rfl (fun w62 Iw62 sw62 kw62 uw62 => ?_)
              have c63 := sf_ma kw62 (p := 117) rfl
              clear kw62
              refine sf_aload rfl ?_
              refine sf_geti Iw62 rfl rfl (fun v64 lv64 uv64 ev64 => ?_)
              rw [uw62] at ev64
              refine sf_f1_le (fun h65 => absurd h65 (by omega)) (fun h65 => ?_)
              refine sf_lconst (by decide : (0 : Int64).toInt = 0) (fun z66 ez66 => ?_)
              refine sf_lreturn rfl rfl ?_
              exact hR _ _ Iw62 sw62 
            · refine sf_iconst sf_c1 (fun z67 ez67 => ?_)
              refine sf_zreturn (by omega) rfl rfl ?_
              refine sf_f1_eq (fun h68 => absurd h68 (by omega)) (fun h68 => ?_)
              refine sf_iconst sf_c0 (fun z69 ez69 => ?_)
              refine sf_puti hI0 hs0 rfl rfl (sf_bd _) rfl rfl rfl (fun w70 Iw70 sw70 kw70 uw70 => ?_)
              have c71 := sf_ma kw70 (p := 117) rfl
              clear kw70
              refine sf_aload rfl ?_
              refine sf_geti Iw70 rfl rfl (fun v72 lv72 uv72 ev72 => ?_)
              rw [uw70] at ev72
              refine sf_f1_le (fun h73 => ?_) (fun h73 => absurd h73 (by omega))
              refine sf_iconst sf_c4 (fun z74 ez74 => ?_)
              refine sf_iload rfl ?_
              refine sf_imull (n := 4) (by omega) (by omega) (fun v75 ev75 => ?_)
              refine sf_iload rfl ?_
              refine sf_iadd (by omega) (fun v76 ev76 => ?_)
              refine sf_istore (L' := [(0, .inl (.ref 71)), (1, .inl (.int a_d)), (2, .inl (.int a_l)), (3, .inl (.int a_what))]) rfl ?_
              refine sf_iload rfl ?_
              refine sf_f1_eq (fun h77 => ?_) (fun h77 => ?_)
              · refine sf_aload rfl ?_
                refine sf_iload rfl ?_
                refine sf_call2 rfl rfl rfl ?_
                refine sf_rv Iw70 rfl ?_
                refine sc_M_value Iw70 (by omega) (by omega) (fun w78 Iw78 tw78 => ?_)
                have s80 := sf_mt sw70 tw78 rfl
                have c81 := sf_mf tw78 (p := 71) (j := 0) rfl
                have c82 := sf_ma tw78 (p := 117) rfl
                refine sf_aload rfl ?_
                refine sf_getr Iw78 rfl rfl ?_
                refine sf_iload rfl ?_
                refine sf_lald Iw78 rfl (by omega) (fun v83 ev83 => ?_)
                clear ev83
                refine sf_lreturn rfl rfl ?_
                exact hR _ _ Iw78 s80 
              · refine sf_aload rfl ?_
                refine sf_getr Iw70 rfl rfl ?_
                refine sf_iload rfl ?_
                refine sf_zald Iw70 rfl (by omega) (fun v84 lv84 uv84 ev84 => ?_)
                clear ev84
                refine sf_f1_eq (fun h85 => ?_) (fun h85 => ?_)
                · refine sf_aload rfl ?_
                  refine sf_aload rfl ?_
                  refine sf_iload rfl ?_
                  refine sf_call2 rfl rfl rfl ?_
                  refine sf_rv Iw70 rfl ?_
                  refine sc_M_find Iw70 (by omega) (by omega) (fun v86 w87 Iw87 tw87 lv86 uv86 q88_0 => ?_)
                  have s89 := sf_mt sw70 tw87 rfl
                  have c90 := sf_mf tw87 (p := 71) (j := 0) rfl
                  have r2 := q88_0
                  rw [sf_ma s89 (p := 104) rfl] at r2
                  refine sf_f1_eq (fun h91 => ?_) (fun h91 => ?_)
                  · refine sf_iconst sf_c2 (fun z92 ez92 => ?_)
                    refine sf_puti Iw87 s89 rfl rfl (sf_bd _) rfl rfl rfl (fun w93 Iw93 sw93 kw93 uw93 => ?_)
                    have c94 := sf_ma kw93 (p := 117) rfl
                    clear kw93
                    refine sf_aload rfl ?_
                    refine sf_geti Iw93 rfl rfl (fun v95 lv95 uv95 ev95 => ?_)
                    rw [uw93] at ev95
                    refine sf_f1_le (fun h96 => absurd h96 (by omega)) (fun h96 => ?_)
                    refine sf_lconst (by decide : (0 : Int64).toInt = 0) (fun z97 ez97 => ?_)
                    refine sf_lreturn rfl rfl ?_
                    exact hR _ _ Iw93 sw93 
                  · refine sf_iconst sf_c0 (fun z98 ez98 => ?_)
                    refine sf_puti Iw87 s89 rfl rfl (sf_bd _) rfl rfl rfl (fun w99 Iw99 sw99 kw99 uw99 => ?_)
                    have c100 := sf_ma kw99 (p := 117) rfl
                    clear kw99
                    refine sf_aload rfl ?_
                    refine sf_geti Iw99 rfl rfl (fun v101 lv101 uv101 ev101 => ?_)
                    rw [uw99] at ev101
                    refine sf_f1_le (fun h102 => ?_) (fun h102 => absurd h102 (by omega))
                    refine sf_aload rfl ?_
                    refine sf_iload rfl ?_
                    refine sf_call2 rfl rfl rfl ?_
                    refine sf_rv Iw99 rfl ?_
                    refine sc_M_assess Iw99 (by omega) (by omega) (by rw [sf_ma sw99 (p := 104) rfl]; rw [c100]; exact r2 (by omega)) (fun v103 w104 Iw104 tw104 => ?_)
                    have s106 := sf_mt sw99 tw104 rfl
                    have c107 := sf_mf tw104 (p := 71) (j := 0) rfl
                    have c108 := sf_ma tw104 (p := 117) rfl
                    refine sf_pop2 rfl ?_
                    refine sf_iload rfl ?_
                    refine sf_iconst sf_c1 (fun z109 ez109 => ?_)
                    refine sf_f2_eq (fun h110 => ?_) (fun h110 => ?_)
                    · refine sf_aload rfl ?_
                      refine sf_getr Iw104 rfl rfl ?_
                      refine sf_iload rfl ?_
                      refine sf_iald Iw104 rfl (by omega) (fun v111 lv111 uv111 ev111 => ?_)
                      clear lv111 uv111
                      clear ev111
                      refine sf_i2lb (fun v112 ev112 lv112 uv112 => ?_)
                      refine sf_lreturn rfl rfl ?_
                      exact hR _ _ Iw104 s106 
                    · refine sf_aload rfl ?_
                      refine sf_getr Iw104 rfl rfl ?_
                      refine sf_iload rfl ?_
                      refine sf_lald Iw104 rfl (by omega) (fun v113 ev113 => ?_)
                      clear ev113
                      refine sf_lreturn rfl rfl ?_
                      exact hR _ _ Iw104 s106 
                · refine sf_iload rfl ?_
                  refine sf_iconst sf_c1 (fun z114 ez114 => ?_)
                  refine sf_f2_eq (fun h115 => ?_) (fun h115 => ?_)
                  · refine sf_aload rfl ?_
                    refine sf_getr Iw70 rfl rfl ?_
                    refine sf_iload rfl ?_
                    refine sf_iald Iw70 rfl (by omega) (fun v116 lv116 uv116 ev116 => ?_)
                    clear lv116 uv116
                    clear ev116
                    refine sf_i2lb (fun v117 ev117 lv117 uv117 => ?_)
                    refine sf_lreturn rfl rfl ?_
                    exact hR _ _ Iw70 sw70 
                  · refine sf_aload rfl ?_
                    refine sf_getr Iw70 rfl rfl ?_
                    refine sf_iload rfl ?_
                    refine sf_lald Iw70 rfl (by omega) (fun v118 ev118 => ?_)
                    clear ev118
                    refine sf_lreturn rfl rfl ?_
                    exact hR _ _ Iw70 sw70 
def sm_M_accept : List Nat := [71, 91, 92, 106, 111, 112, 113, 114, 115, 116, 117, 118, 119, 120, 121, 122, 124, 125, 126, 8100, 8141, 8156, 8166]
set_option maxRecDepth 100000 in
set_option maxHeartbeats 4000000 in
theorem sc_M_accept {w0 : wq_W} (hI0 : sf_I w0) {rt : Option wq_V → wq_W → Prop} {xt : Nat → wq_W → Prop} {a_d : Int32}  (hR : ∀ (r : Int64) (w : wq_W), sf_I w → sf_m sm_M_accept w0 w → rt (some (.inl (.long r))) w) : ks_M_accept [.inl (.ref 71), .inl (.int a_d)] w0 rt xt := by
  have hs0 : sf_m sm_M_accept w0 w0 := sf_m0
  have hl : ∀ n : Nat, (∀ (w : wq_W) (x2 : Int64) (x4 : Int32), (sf_I w) → (sf_m sm_M_accept w0 w) → (0 ≤ x4.toInt) → (x4.toInt ≤ 48) → ((sf_f w 71 56).toInt + 4 * a_d.toInt + (sf_a w0 104 a_d.toInt.toNat).toInt - x4.toInt ≤ 40) → (0 ≤ a_d.toInt) → (a_d.toInt ≤ 11) → (48 - x4.toInt < (n : Int)) → ku_M_accept rt xt n 95 [(0, .inl (.ref 71)), (1, .inl (.int a_d)), (2, .inl (.long x2)), (4, .inl (.int x4))] [] w 0 0) := by
    intro n
    induction n with
    | zero =>
      refine ?_
      · intros; omega
    | succ n ih =>
      have i_95 := ih
      intro w x2 x4 I_w s_w l_x4 u_x4 f_0 f_1 f_2 hm
      show kh_M_accept_95 rt xt (ku_M_accept rt xt n) [(0, .inl (.ref 71)), (1, .inl (.int a_d)), (2, .inl (.long x2)), (4, .inl (.int x4))] [] w 0 0
      generalize ku_M_accept rt xt n = K at i_95 ⊢
      refine sf_iload rfl ?_
      refine sf_iconst sf_c4 (fun z1 ez1 => ?_)
      refine sf_iload rfl ?_
      refine sf_imull (n := 4) (by omega) (by omega) (fun v2 ev2 => ?_)
      refine sf_aload rfl ?_
      refine sf_getr I_w rfl rfl ?_
      refine sf_iload rfl ?_
      refine sf_iald I_w rfl (by omega) (fun v3 lv3 uv3 ev3 => ?_)
      rw [sf_ma s_w (p := 104) rfl] at ev3
      refine sf_iadd (by omega) (fun v4 ev4 => ?_)
      refine sf_f2_ge (fun h5 => ?_) (fun h5 => ?_)
      · refine sf_aload rfl ?_
        refine sf_getr I_w rfl rfl ?_
        refine sf_iload rfl ?_
        refine sf_iconst sf_c1 (fun z6 ez6 => ?_)
        refine sf_zast I_w s_w rfl (by omega) (by omega) rfl rfl (fun w7 Iw7 sw7 kw7 uw7 => ?_)
        have c8 := sf_mf kw7 (p := 71) (j := 0) rfl
        have c9 := sf_ma kw7 (p := 117) rfl
        have c10 := sf_mf kw7 (p := 71) (j := 56) rfl
        clear kw7 uw7
        refine sf_aload rfl ?_
        refine sf_iload rfl ?_
        refine sf_puti Iw7 sw7 rfl rfl (by omega) rfl rfl rfl (fun w11 Iw11 sw11 kw11 uw11 => ?_)
        have c12 := sf_mf kw11 (p := 71) (j := 0) rfl
        have c13 := sf_ma kw11 (p := 117) rfl
        have c14 := sf_mf kw11 (p := 71) (j := 56) rfl
        clear kw11 uw11
        refine sf_lload rfl ?_
        refine sf_lreturn rfl rfl ?_
        exact hR _ _ Iw11 sw11 
      · refine sf_aload rfl ?_
        refine sf_getr I_w rfl rfl ?_
        refine sf_iload rfl ?_
        refine sf_aload rfl ?_
        refine sf_aload rfl ?_
        refine sf_getr I_w rfl rfl ?_
        refine sf_iload rfl ?_
        refine sf_iald I_w rfl (by omega) (fun v15 lv15 uv15 ev15 => ?_)
        clear ev15
        refine sf_aload rfl ?_
        refine sf_getr I_w rfl rfl ?_
        refine sf_iconst sf_c3 (fun z16 ez16 => ?_)
        refine sf_iload rfl ?_
        refine sf_imull (n := 3) (by omega) (by omega) (fun v17 ev17 => ?_)
        refine sf_iald I_w rfl (by omega) (fun v18 lv18 uv18 ev18 => ?_)
        rw [sf_ma s_w (p := 110) rfl] at ev18
        refine sf_aload rfl ?_
        refine sf_getr I_w rfl rfl ?_
        refine sf_iload rfl ?_
        refine sf_lald I_w rfl (by omega) (fun v19 ev19 => ?_)
        clear ev19
        refine sf_aload rfl ?_
        refine sf_getr I_w rfl rfl ?_
        refine sf_iload rfl ?_
        refine sf_zald I_w rfl (by omega) (fun v20 lv20 uv20 ev20 => ?_)
        clear ev20
        refine sf_iconst sf_c0 (fun z21 ez21 => ?_)
        refine sf_call6 rfl rfl rfl ?_
        refine sf_rv I_w rfl ?_
        refine sc_M_addLot I_w (by omega) (by omega) (by omega) (by omega) (by omega) (fun v22 w23 Iw23 tw23 lv22 uv22 q24_0 q24_1 => ?_)
        have s25 := sf_mt s_w tw23 rfl
        have c26 := sf_mf tw23 (p := 71) (j := 0) rfl
        have c27 := sf_ma tw23 (p := 117) rfl
        refine sf_iast Iw23 s25 rfl (by omega) (by omega) rfl rfl (fun w28 Iw28 sw28 kw28 uw28 => ?_)
        have c29 := sf_mf kw28 (p := 71) (j := 0) rfl
        have c30 := sf_ma kw28 (p := 117) rfl
        have c31 := sf_mf kw28 (p := 71) (j := 56) rfl
        clear kw28 uw28
        refine sf_aload rfl ?_
        refine sf_aload rfl ?_
        refine sf_getr Iw28 rfl rfl ?_
        refine sf_iload rfl ?_
        refine sf_zald Iw28 rfl (by omega) (fun v32 lv32 uv32 ev32 => ?_)
        clear ev32
        refine sf_f1_eq (fun h33 => ?_) (fun h33 => ?_)
        · refine sf_aload rfl ?_
          refine sf_getl Iw28 rfl rfl (fun v34 => ?_)
          refine sf_aload rfl ?_
          refine sf_getr Iw28 rfl rfl ?_
          refine sf_iload rfl ?_
          refine sf_lald Iw28 rfl (by omega) (fun v35 ev35 => ?_)
          clear ev35
          refine sf_l2 (fun v36 => ?_)
          refine sf_putl Iw28 sw28 rfl rfl rfl rfl rfl (fun w37 Iw37 sw37 kw37 uw37 => ?_)
          have c38 := sf_mf kw37 (p := 71) (j := 0) rfl
          have c39 := sf_ma kw37 (p := 117) rfl
          have c40 := sf_mf kw37 (p := 71) (j := 56) rfl
          clear kw37 uw37
          refine sf_iinc (L' := [(0, .inl (.ref 71)), (1, .inl (.int a_d)), (2, .inl (.long x2))]) sf_c1 rfl rfl (by omega) (fun v41 ev41 => ?_)
          refine sf_can (L' := [(0, .inl (.ref 71)), (1, .inl (.int a_d)), (2, .inl (.long x2)), (4, .inl (.int v41))]) rfl ?_
          exact i_95 w37 x2 v41 Iw37 sw37 (by omega) (by omega) (by rw [c40, c31]; omega) (by omega) (by omega) (by omega)
        · refine sf_aload rfl ?_
          refine sf_getl Iw28 rfl rfl (fun v42 => ?_)
          refine sf_putl Iw28 sw28 rfl rfl rfl rfl rfl (fun w43 Iw43 sw43 kw43 uw43 => ?_)
          have c44 := sf_mf kw43 (p := 71) (j := 0) rfl
          have c45 := sf_ma kw43 (p := 117) rfl
          have c46 := sf_mf kw43 (p := 71) (j := 56) rfl
          clear kw43 uw43
          refine sf_iinc (L' := [(0, .inl (.ref 71)), (1, .inl (.int a_d)), (2, .inl (.long x2))]) sf_c1 rfl rfl (by omega) (fun v47 ev47 => ?_)
          refine sf_can (L' := [(0, .inl (.ref 71)), (1, .inl (.int a_d)), (2, .inl (.long x2)), (4, .inl (.int v47))]) rfl ?_
          exact i_95 w43 x2 v47 Iw43 sw43 (by omega) (by omega) (by rw [c46, c31]; omega) (by omega) (by omega) (by omega)
  have hl1 := hl 1000000000000
  have i_95 := hl1
  clear hl hl1
  refine sf_sp (L := [(0, .inl (.ref 71)), (1, .inl (.int a_d))]) rfl rfl ?_
  generalize ku_M_accept rt xt 1000000000000 = K at i_95 ⊢
  refine sf_aload rfl ?_
  refine sf_aload rfl ?_
  refine sf_iload rfl ?_
  refine sf_call2 rfl rfl rfl ?_
  refine sf_rv hI0 rfl ?_
  refine sf_sp (L := [(0, .inl (.ref 71)), (1, .inl (.int a_d))]) rfl rfl ?_
  refine sf_iload rfl ?_
  refine sf_f1_lt (fun h48 => ?_) (fun h48 => ?_)
  · refine sf_iconst sf_c0 (fun z49 ez49 => ?_)
    refine sf_zreturn (by omega) rfl rfl ?_
    refine sf_f1_eq (fun h50 => ?_) (fun h50 => absurd h50 (by omega))
    refine sf_iconst sf_c1 (fun z51 ez51 => ?_)
    refine sf_puti hI0 hs0 rfl rfl (sf_bd _) rfl rfl rfl (fun w52 Iw52 sw52 kw52 uw52 => ?_)
    have c53 := sf_ma kw52 (p := 117) rfl
    have c54 := sf_mf kw52 (p := 71) (j := 56) rfl
    clear kw52
    refine sf_aload rfl ?_
    refine sf_geti Iw52 rfl rfl (fun v55 lv55 uv55 ev55 => ?_)
    rw [uw52] at ev55
    refine sf_f1_le (fun h56 => absurd h56 (by omega)) (fun h56 => ?_)
    refine sf_lconst (by decide : (0 : Int64).toInt = 0) (fun z57 ez57 => ?_)
    refine sf_lreturn rfl rfl ?_
    exact hR _ _ Iw52 sw52 
  · refine sf_iload rfl ?_
    refine sf_aload rfl ?_
    refine sf_geti hI0 rfl rfl (fun v58 lv58 uv58 ev58 => ?_)
    refine sf_f2_ge (fun h59 => ?_) (fun h59 => ?_)
    · refine sf_iconst sf_c0 (fun z60 ez60 => ?_)
      refine sf_zreturn (by omega) rfl rfl ?_
      refine sf_f1_eq (fun h61 => ?_) (fun h61 => absurd h61 (by omega))
      refine sf_iconst sf_c1 (fun z62 ez62 => ?_)
      refine sf_puti hI0 hs0 rfl rfl (sf_bd _) rfl rfl rfl (fun w63 Iw63 sw63 kw63 uw63 => ?_)
      have c64 := sf_ma kw63 (p := 117) rfl
      have c65 := sf_mf kw63 (p := 71) (j := 56) rfl
      clear kw63
      refine sf_aload rfl ?_
      refine sf_geti Iw63 rfl rfl (fun v66 lv66 uv66 ev66 => ?_)
      rw [uw63] at ev66
      refine sf_f1_le (fun h67 => absurd h67 (by omega)) (fun h67 => ?_)
      refine sf_lconst (by decide : (0 : Int64).toInt = 0) (fun z68 ez68 => ?_)
      refine sf_lreturn rfl rfl ?_
      exact hR _ _ Iw63 sw63 
    · refine sf_iconst sf_c1 (fun z69 ez69 => ?_)
      refine sf_zreturn (by omega) rfl rfl ?_
      refine sf_f1_eq (fun h70 => absurd h70 (by omega)) (fun h70 => ?_)
      refine sf_aload rfl ?_
      refine sf_getr hI0 rfl rfl ?_
      refine sf_iload rfl ?_
      refine sf_zald hI0 rfl (by omega) (fun v71 lv71 uv71 ev71 => ?_)
      clear ev71
      refine sf_f1_eq (fun h72 => ?_) (fun h72 => ?_)
      · refine sf_aload rfl ?_
        refine sf_iload rfl ?_
        refine sf_call2 rfl rfl rfl ?_
        refine sf_rv hI0 rfl ?_
        refine sf_sp (L := [(0, .inl (.ref 71)), (1, .inl (.int a_d))]) rfl rfl ?_
        refine sf_aload rfl ?_
        refine sf_geti hI0 rfl rfl (fun v73 lv73 uv73 ev73 => ?_)
        refine sf_f1_ge (fun h74 => ?_) (fun h74 => ?_)
        · refine sf_aload rfl ?_
          refine sf_getr hI0 rfl rfl ?_
          refine sf_aload rfl ?_
          refine sf_geti hI0 rfl rfl (fun v75 lv75 uv75 ev75 => ?_)
          refine sf_iald hI0 rfl (by omega) (fun v76 lv76 uv76 ev76 => ?_)
          clear lv76 uv76
          clear ev76
          refine sf_aload rfl ?_
          refine sf_getr hI0 rfl rfl ?_
          refine sf_iload rfl ?_
          refine sf_iald hI0 rfl (by omega) (fun v77 lv77 uv77 ev77 => ?_)
          clear lv77 uv77
          clear ev77
          refine sf_f2_eq (fun h78 => ?_) (fun h78 => ?_)
          · refine sf_aload rfl ?_
            refine sf_getr hI0 rfl rfl ?_
            refine sf_aload rfl ?_
            refine sf_geti hI0 rfl rfl (fun v79 lv79 uv79 ev79 => ?_)
            refine sf_iald hI0 rfl (by omega) (fun v80 lv80 uv80 ev80 => ?_)
            clear lv80 uv80
            clear ev80
            refine sf_aload rfl ?_
            refine sf_getr hI0 rfl rfl ?_
            refine sf_iload rfl ?_
            refine sf_iald hI0 rfl (by omega) (fun v81 lv81 uv81 ev81 => ?_)
            clear lv81 uv81
            clear ev81
            refine sf_f2_eq (fun h82 => ?_) (fun h82 => ?_)
            · refine sf_aload rfl ?_
              refine sf_geti hI0 rfl rfl (fun v83 lv83 uv83 ev83 => ?_)
              refine sf_iload rfl ?_
              refine sf_f2_le (fun h84 => ?_) (fun h84 => ?_)
              · refine sf_iconst sf_c0 (fun z85 ez85 => ?_)
                refine sf_zreturn (by omega) rfl rfl ?_
                refine sf_f1_eq (fun h86 => ?_) (fun h86 => absurd h86 (by omega))
                refine sf_aload rfl ?_
                refine sf_iload rfl ?_
                refine sf_call2 rfl rfl rfl ?_
                refine sf_rv hI0 rfl ?_
                refine sc_M_find hI0 (by omega) (by omega) (fun v87 w88 Iw88 tw88 lv87 uv87 q89_0 => ?_)
                have s90 := sf_mt hs0 tw88 rfl
                have c91 := sf_mf tw88 (p := 71) (j := 0) rfl
                have c92 := sf_mf tw88 (p := 71) (j := 56) rfl
                have r2 := q89_0
                rw [sf_ma s90 (p := 104) rfl] at r2
                refine sf_f1_eq (fun h93 => ?_) (fun h93 => ?_)
                · refine sf_iconst sf_c3 (fun z94 ez94 => ?_)
                  refine sf_puti Iw88 s90 rfl rfl (sf_bd _) rfl rfl rfl (fun w95 Iw95 sw95 kw95 uw95 => ?_)
                  have c96 := sf_ma kw95 (p := 117) rfl
                  have c97 := sf_mf kw95 (p := 71) (j := 56) rfl
                  clear kw95
                  refine sf_aload rfl ?_
                  refine sf_geti Iw95 rfl rfl (fun v98 lv98 uv98 ev98 => ?_)
                  rw [uw95] at ev98
                  refine sf_f1_le (fun h99 => absurd h99 (by omega)) (fun h99 => ?_)
                  refine sf_lconst (by decide : (0 : Int64).toInt = 0) (fun z100 ez100 => ?_)
                  refine sf_lreturn rfl rfl ?_
                  exact hR _ _ Iw95 sw95 
                · refine sf_aload rfl ?_
                  refine sf_geti Iw88 rfl rfl (fun v101 lv101 uv101 ev101 => ?_)
                  rw [c92] at ev101
                  refine sf_aload rfl ?_
                  refine sf_getr Iw88 rfl rfl ?_
                  refine sf_iload rfl ?_
                  refine sf_iald Iw88 rfl (by omega) (fun v102 lv102 uv102 ev102 => ?_)
                  rw [sf_ma s90 (p := 104) rfl] at ev102
                  refine sf_iadd (by omega) (fun v103 ev103 => ?_)
                  refine sf_iconst sf_c40 (fun z104 ez104 => ?_)
                  refine sf_f2_le (fun h105 => ?_) (fun h105 => ?_)
                  · refine sf_iconst sf_c0 (fun z106 ez106 => ?_)
                    refine sf_puti Iw88 s90 rfl rfl (sf_bd _) rfl rfl rfl (fun w107 Iw107 sw107 kw107 uw107 => ?_)
                    have c108 := sf_ma kw107 (p := 117) rfl
                    have c109 := sf_mf kw107 (p := 71) (j := 56) rfl
                    clear kw107
                    refine sf_aload rfl ?_
                    refine sf_geti Iw107 rfl rfl (fun v110 lv110 uv110 ev110 => ?_)
                    rw [uw107] at ev110
                    refine sf_f1_le (fun h111 => ?_) (fun h111 => absurd h111 (by omega))
                    refine sf_aload rfl ?_
                    refine sf_iload rfl ?_
                    refine sf_call2 rfl rfl rfl ?_
                    refine sf_rv Iw107 rfl ?_
                    refine sc_M_assess Iw107 (by omega) (by omega) (by rw [sf_ma sw107 (p := 104) rfl]; rw [c108]; exact r2 (by omega)) (fun v112 w113 Iw113 tw113 => ?_)
                    have s115 := sf_mt sw107 tw113 rfl
                    have c116 := sf_mf tw113 (p := 71) (j := 0) rfl
                    have c117 := sf_ma tw113 (p := 117) rfl
                    have c118 := sf_mf tw113 (p := 71) (j := 56) rfl
                    refine sf_lstore (L' := [(0, .inl (.ref 71)), (1, .inl (.int a_d))]) rfl ?_
                    refine sf_aload rfl ?_
                    refine sf_iload rfl ?_
                    refine sf_call2 rfl rfl rfl ?_
                    refine sf_rv Iw113 rfl ?_
                    refine sc_M_book Iw113 (by omega) (by omega) (fun w119 Iw119 tw119 => ?_)
                    have s121 := sf_mt s115 tw119 rfl
                    have c122 := sf_mf tw119 (p := 71) (j := 0) rfl
                    have c123 := sf_ma tw119 (p := 117) rfl
                    have c124 := sf_mf tw119 (p := 71) (j := 56) rfl
                    refine sf_iconst sf_c4 (fun z125 ez125 => ?_)
                    refine sf_iload rfl ?_
                    refine sf_imull (n := 4) (by omega) (by omega) (fun v126 ev126 => ?_)
                    refine sf_istore (L' := [(2, .inl (.long v112)), (0, .inl (.ref 71)), (1, .inl (.int a_d))]) rfl ?_
                    refine sf_can (L' := [(0, .inl (.ref 71)), (1, .inl (.int a_d)), (2, .inl (.long v112)), (4, .inl (.int v126))]) rfl ?_
                    exact i_95 w119 v112 v126 Iw119 s121 (by omega) (by omega) (by rw [c124, c118, c109, c92]; omega) (by omega) (by omega) (by omega)
                  · refine sf_iconst sf_c4 (fun z127 ez127 => ?_)
                    refine sf_puti Iw88 s90 rfl rfl (sf_bd _) rfl rfl rfl (fun w128 Iw128 sw128 kw128 uw128 => ?_)
                    have c129 := sf_ma kw128 (p := 117) rfl
                    have c130 := sf_mf kw128 (p := 71) (j := 56) rfl
                    clear kw128
                    refine sf_aload rfl ?_
                    refine sf_geti Iw128 rfl rfl (fun v131 lv131 uv131 ev131 => ?_)
                    rw [uw128] at ev131
                    refine sf_f1_le (fun h132 => absurd h132 (by omega)) (fun h132 => ?_)
                    refine sf_lconst (by decide : (0 : Int64).toInt = 0) (fun z133 ez133 => ?_)
                    refine sf_lreturn rfl rfl ?_
                    exact hR _ _ Iw128 sw128 
              · refine sf_iconst sf_c1 (fun z134 ez134 => ?_)
                refine sf_zreturn (by omega) rfl rfl ?_
                refine sf_f1_eq (fun h135 => absurd h135 (by omega)) (fun h135 => ?_)
                refine sf_iconst sf_c2 (fun z136 ez136 => ?_)
                refine sf_puti hI0 hs0 rfl rfl (sf_bd _) rfl rfl rfl (fun w137 Iw137 sw137 kw137 uw137 => ?_)
                have c138 := sf_ma kw137 (p := 117) rfl
                have c139 := sf_mf kw137 (p := 71) (j := 56) rfl
                clear kw137
                refine sf_aload rfl ?_
                refine sf_geti Iw137 rfl rfl (fun v140 lv140 uv140 ev140 => ?_)
                rw [uw137] at ev140
                refine sf_f1_le (fun h141 => absurd h141 (by omega)) (fun h141 => ?_)
                refine sf_lconst (by decide : (0 : Int64).toInt = 0) (fun z142 ez142 => ?_)
                refine sf_lreturn rfl rfl ?_
                exact hR _ _ Iw137 sw137 
            · refine sf_aload rfl ?_
              refine sf_getr hI0 rfl rfl ?_
              refine sf_aload rfl ?_
              refine sf_geti hI0 rfl rfl (fun v143 lv143 uv143 ev143 => ?_)
              refine sf_iald hI0 rfl (by omega) (fun v144 lv144 uv144 ev144 => ?_)
              clear lv144 uv144
              clear ev144
              refine sf_aload rfl ?_
              refine sf_getr hI0 rfl rfl ?_
              refine sf_iload rfl ?_
              refine sf_iald hI0 rfl (by omega) (fun v145 lv145 uv145 ev145 => ?_)
              clear lv145 uv145
              clear ev145
              refine sf_f2_le (fun h146 => ?_) (fun h146 => ?_)
              · refine sf_iconst sf_c0 (fun z147 ez147 => ?_)
                refine sf_zreturn (by omega) rfl rfl ?_
                refine sf_f1_eq (fun h148 => ?_) (fun h148 => absurd h148 (by omega))
                refine sf_aload rfl ?_
                refine sf_iload rfl ?_
                refine sf_call2 rfl rfl rfl ?_
                refine sf_rv hI0 rfl ?_
                refine sc_M_find hI0 (by omega) (by omega) (fun v149 w150 Iw150 tw150 lv149 uv149 q151_0 => ?_)
                have s152 := sf_mt hs0 tw150 rfl
                have c153 := sf_mf tw150 (p := 71) (j := 0) rfl
                have c154 := sf_mf tw150 (p := 71) (j := 56) rfl
                have r2 := q151_0
                rw [sf_ma s152 (p := 104) rfl] at r2
                refine sf_f1_eq (fun h155 => ?_) (fun h155 => ?_)
                · refine sf_iconst sf_c3 (fun z156 ez156 => ?_)
                  refine sf_puti Iw150 s152 rfl rfl (sf_bd _) rfl rfl rfl (fun w157 Iw157 sw157 kw157 uw157 => ?_)
                  have c158 := sf_ma kw157 (p := 117) rfl
                  have c159 := sf_mf kw157 (p := 71) (j := 56) rfl
                  clear kw157
                  refine sf_aload rfl ?_
                  refine sf_geti Iw157 rfl rfl (fun v160 lv160 uv160 ev160 => ?_)
                  rw [uw157] at ev160
                  refine sf_f1_le (fun h161 => absurd h161 (by omega)) (fun h161 => ?_)
                  refine sf_lconst (by decide : (0 : Int64).toInt = 0) (fun z162 ez162 => ?_)
                  refine sf_lreturn rfl rfl ?_
                  exact hR _ _ Iw157 sw157 
                · refine sf_aload rfl ?_
                  refine sf_geti Iw150 rfl rfl (fun v163 lv163 uv163 ev163 => ?_)
                  rw [c154] at ev163
                  refine sf_aload rfl ?_
                  refine sf_getr Iw150 rfl rfl ?_
                  refine sf_iload rfl ?_
                  refine sf_iald Iw150 rfl (by omega) (fun v164 lv164 uv164 ev164 => ?_)
                  rw [sf_ma s152 (p := 104) rfl] at ev164
                  refine sf_iadd (by omega) (fun v165 ev165 => ?_)
                  refine sf_iconst sf_c40 (fun z166 ez166 => ?_)
                  refine sf_f2_le (fun h167 => ?_) (fun h167 => ?_)
                  · refine sf_iconst sf_c0 (fun z168 ez168 => ?_)
                    refine sf_puti Iw150 s152 rfl rfl (sf_bd _) rfl rfl rfl (fun w169 Iw169 sw169 kw169 uw169 => ?_)
                    have c170 := sf_ma kw169 (p := 117) rfl
                    have c171 := sf_mf kw169 (p := 71) (j := 56) rfl
                    clear kw169
                    refine sf_aload rfl ?_
                    refine sf_geti Iw169 rfl rfl (fun v172 lv172 uv172 ev172 => ?_)
                    rw [uw169] at ev172
                    refine sf_f1_le (fun h173 => ?_) (fun h173 => absurd h173 (by omega))
                    refine sf_aload rfl ?_
                    refine sf_iload rfl ?_
                    refine sf_call2 rfl rfl rfl ?_
                    refine sf_rv Iw169 rfl ?_
                    refine sc_M_assess Iw169 (by omega) (by omega) (by rw [sf_ma sw169 (p := 104) rfl]; rw [c170]; exact r2 (by omega)) (fun v174 w175 Iw175 tw175 => ?_)
                    have s177 := sf_mt sw169 tw175 rfl
                    have c178 := sf_mf tw175 (p := 71) (j := 0) rfl
                    have c179 := sf_ma tw175 (p := 117) rfl
                    have c180 := sf_mf tw175 (p := 71) (j := 56) rfl
                    refine sf_lstore (L' := [(0, .inl (.ref 71)), (1, .inl (.int a_d))]) rfl ?_
                    refine sf_aload rfl ?_
                    refine sf_iload rfl ?_
                    refine sf_call2 rfl rfl rfl ?_
                    refine sf_rv Iw175 rfl ?_
                    refine sc_M_book Iw175 (by omega) (by omega) (fun w181 Iw181 tw181 => ?_)
                    have s183 := sf_mt s177 tw181 rfl
                    have c184 := sf_mf tw181 (p := 71) (j := 0) rfl
                    have c185 := sf_ma tw181 (p := 117) rfl
                    have c186 := sf_mf tw181 (p := 71) (j := 56) rfl
                    refine sf_iconst sf_c4 (fun z187 ez187 => ?_)
                    refine sf_iload rfl ?_
                    refine sf_imull (n := 4) (by omega) (by omega) (fun v188 ev188 => ?_)
                    refine sf_istore (L' := [(2, .inl (.long v174)), (0, .inl (.ref 71)), (1, .inl (.int a_d))]) rfl ?_
                    refine sf_can (L' := [(0, .inl (.ref 71)), (1, .inl (.int a_d)), (2, .inl (.long v174)), (4, .inl (.int v188))]) rfl ?_
                    exact i_95 w181 v174 v188 Iw181 s183 (by omega) (by omega) (by rw [c186, c180, c171, c154]; omega) (by omega) (by omega) (by omega)
                  · refine sf_iconst sf_c4 (fun z189 ez189 => ?_)
                    refine sf_puti Iw150 s152 rfl rfl (sf_bd _) rfl rfl rfl (fun w190 Iw190 sw190 kw190 uw190 => ?_)
                    have c191 := sf_ma kw190 (p := 117) rfl
                    have c192 := sf_mf kw190 (p := 71) (j := 56) rfl
                    clear kw190
                    refine sf_aload rfl ?_
                    refine sf_geti Iw190 rfl rfl (fun v193 lv193 uv193 ev193 => ?_)
                    rw [uw190] at ev193
                    refine sf_f1_le (fun h194 => absurd h194 (by omega)) (fun h194 => ?_)
                    refine sf_lconst (by decide : (0 : Int64).toInt = 0) (fun z195 ez195 => ?_)
                    refine sf_lreturn rfl rfl ?_
                    exact hR _ _ Iw190 sw190 
              · refine sf_iconst sf_c1 (fun z196 ez196 => ?_)
                refine sf_zreturn (by omega) rfl rfl ?_
                refine sf_f1_eq (fun h197 => absurd h197 (by omega)) (fun h197 => ?_)
                refine sf_iconst sf_c2 (fun z198 ez198 => ?_)
                refine sf_puti hI0 hs0 rfl rfl (sf_bd _) rfl rfl rfl (fun w199 Iw199 sw199 kw199 uw199 => ?_)
                have c200 := sf_ma kw199 (p := 117) rfl
                have c201 := sf_mf kw199 (p := 71) (j := 56) rfl
                clear kw199
                refine sf_aload rfl ?_
                refine sf_geti Iw199 rfl rfl (fun v202 lv202 uv202 ev202 => ?_)
                rw [uw199] at ev202
                refine sf_f1_le (fun h203 => absurd h203 (by omega)) (fun h203 => ?_)
                refine sf_lconst (by decide : (0 : Int64).toInt = 0) (fun z204 ez204 => ?_)
                refine sf_lreturn rfl rfl ?_
                exact hR _ _ Iw199 sw199 
          · refine sf_aload rfl ?_
            refine sf_getr hI0 rfl rfl ?_
            refine sf_aload rfl ?_
            refine sf_geti hI0 rfl rfl (fun v205 lv205 uv205 ev205 => ?_)
            refine sf_iald hI0 rfl (by omega) (fun v206 lv206 uv206 ev206 => ?_)
            clear lv206 uv206
            clear ev206
            refine sf_aload rfl ?_
            refine sf_getr hI0 rfl rfl ?_
            refine sf_iload rfl ?_
            refine sf_iald hI0 rfl (by omega) (fun v207 lv207 uv207 ev207 => ?_)
            clear lv207 uv207
            clear ev207
            refine sf_f2_le (fun h208 => ?_) (fun h208 => ?_)
            · refine sf_iconst sf_c0 (fun z209 ez209 => ?_)
              refine sf_zreturn (by omega) rfl rfl ?_
              refine sf_f1_eq (fun h210 => ?_) (fun h210 => absurd h210 (by omega))
              refine sf_aload rfl ?_
              refine sf_iload rfl ?_
              refine sf_call2 rfl rfl rfl ?_
              refine sf_rv hI0 rfl ?_
              refine sc_M_find hI0 (by omega) (by omega) (fun v211 w212 Iw212 tw212 lv211 uv211 q213_0 => ?_)
              have s214 := sf_mt hs0 tw212 rfl
              have c215 := sf_mf tw212 (p := 71) (j := 0) rfl
              have c216 := sf_mf tw212 (p := 71) (j := 56) rfl
              have r2 := q213_0
              rw [sf_ma s214 (p := 104) rfl] at r2
              refine sf_f1_eq (fun h217 => ?_) (fun h217 => ?_)
              · refine sf_iconst sf_c3 (fun z218 ez218 => ?_)
                refine sf_puti Iw212 s214 rfl rfl (sf_bd _) rfl rfl rfl (fun w219 Iw219 sw219 kw219 uw219 => ?_)
                have c220 := sf_ma kw219 (p := 117) rfl
                have c221 := sf_mf kw219 (p := 71) (j := 56) rfl
                clear kw219
                refine sf_aload rfl ?_
                refine sf_geti Iw219 rfl rfl (fun v222 lv222 uv222 ev222 => ?_)
                rw [uw219] at ev222
                refine sf_f1_le (fun h223 => absurd h223 (by omega)) (fun h223 => ?_)
                refine sf_lconst (by decide : (0 : Int64).toInt = 0) (fun z224 ez224 => ?_)
                refine sf_lreturn rfl rfl ?_
                exact hR _ _ Iw219 sw219 
              · refine sf_aload rfl ?_
                refine sf_geti Iw212 rfl rfl (fun v225 lv225 uv225 ev225 => ?_)
                rw [c216] at ev225
                refine sf_aload rfl ?_
                refine sf_getr Iw212 rfl rfl ?_
                refine sf_iload rfl ?_
                refine sf_iald Iw212 rfl (by omega) (fun v226 lv226 uv226 ev226 => ?_)
                rw [sf_ma s214 (p := 104) rfl] at ev226
                refine sf_iadd (by omega) (fun v227 ev227 => ?_)
                refine sf_iconst sf_c40 (fun z228 ez228 => ?_)
                refine sf_f2_le (fun h229 => ?_) (fun h229 => ?_)
                · refine sf_iconst sf_c0 (fun z230 ez230 => ?_)
                  refine sf_puti Iw212 s214 rfl rfl (sf_bd _) rfl rfl rfl (fun w231 Iw231 sw231 kw231 uw231 => ?_)
                  have c232 := sf_ma kw231 (p := 117) rfl
                  have c233 := sf_mf kw231 (p := 71) (j := 56) rfl
                  clear kw231
                  refine sf_aload rfl ?_
                  refine sf_geti Iw231 rfl rfl (fun v234 lv234 uv234 ev234 => ?_)
                  rw [uw231] at ev234
                  refine sf_f1_le (fun h235 => ?_) (fun h235 => absurd h235 (by omega))
                  refine sf_aload rfl ?_
                  refine sf_iload rfl ?_
                  refine sf_call2 rfl rfl rfl ?_
                  refine sf_rv Iw231 rfl ?_
                  refine sc_M_assess Iw231 (by omega) (by omega) (by rw [sf_ma sw231 (p := 104) rfl]; rw [c232]; exact r2 (by omega)) (fun v236 w237 Iw237 tw237 => ?_)
                  have s239 := sf_mt sw231 tw237 rfl
                  have c240 := sf_mf tw237 (p := 71) (j := 0) rfl
                  have c241 := sf_ma tw237 (p := 117) rfl
                  have c242 := sf_mf tw237 (p := 71) (j := 56) rfl
                  refine sf_lstore (L' := [(0, .inl (.ref 71)), (1, .inl (.int a_d))]) rfl ?_
                  refine sf_aload rfl ?_
                  refine sf_iload rfl ?_
                  refine sf_call2 rfl rfl rfl ?_
                  refine sf_rv Iw237 rfl ?_
                  refine sc_M_book Iw237 (by omega) (by omega) (fun w243 Iw243 tw243 => ?_)
                  have s245 := sf_mt s239 tw243 rfl
                  have c246 := sf_mf tw243 (p := 71) (j := 0) rfl
                  have c247 := sf_ma tw243 (p := 117) rfl
                  have c248 := sf_mf tw243 (p := 71) (j := 56) rfl
                  refine sf_iconst sf_c4 (fun z249 ez249 => ?_)
                  refine sf_iload rfl ?_
                  refine sf_imull (n := 4) (by omega) (by omega) (fun v250 ev250 => ?_)
                  refine sf_istore (L' := [(2, .inl (.long v236)), (0, .inl (.ref 71)), (1, .inl (.int a_d))]) rfl ?_
                  refine sf_can (L' := [(0, .inl (.ref 71)), (1, .inl (.int a_d)), (2, .inl (.long v236)), (4, .inl (.int v250))]) rfl ?_
                  exact i_95 w243 v236 v250 Iw243 s245 (by omega) (by omega) (by rw [c248, c242, c233, c216]; omega) (by omega) (by omega) (by omega)
                · refine sf_iconst sf_c4 (fun z251 ez251 => ?_)
                  refine sf_puti Iw212 s214 rfl rfl (sf_bd _) rfl rfl rfl (fun w252 Iw252 sw252 kw252 uw252 => ?_)
                  have c253 := sf_ma kw252 (p := 117) rfl
                  have c254 := sf_mf kw252 (p := 71) (j := 56) rfl
                  clear kw252
                  refine sf_aload rfl ?_
                  refine sf_geti Iw252 rfl rfl (fun v255 lv255 uv255 ev255 => ?_)
                  rw [uw252] at ev255
                  refine sf_f1_le (fun h256 => absurd h256 (by omega)) (fun h256 => ?_)
                  refine sf_lconst (by decide : (0 : Int64).toInt = 0) (fun z257 ez257 => ?_)
                  refine sf_lreturn rfl rfl ?_
                  exact hR _ _ Iw252 sw252 
            · refine sf_iconst sf_c1 (fun z258 ez258 => ?_)
              refine sf_zreturn (by omega) rfl rfl ?_
              refine sf_f1_eq (fun h259 => absurd h259 (by omega)) (fun h259 => ?_)
              refine sf_iconst sf_c2 (fun z260 ez260 => ?_)
              refine sf_puti hI0 hs0 rfl rfl (sf_bd _) rfl rfl rfl (fun w261 Iw261 sw261 kw261 uw261 => ?_)
              have c262 := sf_ma kw261 (p := 117) rfl
              have c263 := sf_mf kw261 (p := 71) (j := 56) rfl
              clear kw261
              refine sf_aload rfl ?_
              refine sf_geti Iw261 rfl rfl (fun v264 lv264 uv264 ev264 => ?_)
              rw [uw261] at ev264
              refine sf_f1_le (fun h265 => absurd h265 (by omega)) (fun h265 => ?_)
              refine sf_lconst (by decide : (0 : Int64).toInt = 0) (fun z266 ez266 => ?_)
              refine sf_lreturn rfl rfl ?_
              exact hR _ _ Iw261 sw261 
        · refine sf_iconst sf_c0 (fun z267 ez267 => ?_)
          refine sf_zreturn (by omega) rfl rfl ?_
          refine sf_f1_eq (fun h268 => ?_) (fun h268 => absurd h268 (by omega))
          refine sf_aload rfl ?_
          refine sf_iload rfl ?_
          refine sf_call2 rfl rfl rfl ?_
          refine sf_rv hI0 rfl ?_
          refine sc_M_find hI0 (by omega) (by omega) (fun v269 w270 Iw270 tw270 lv269 uv269 q271_0 => ?_)
          have s272 := sf_mt hs0 tw270 rfl
          have c273 := sf_mf tw270 (p := 71) (j := 0) rfl
          have c274 := sf_mf tw270 (p := 71) (j := 56) rfl
          have r2 := q271_0
          rw [sf_ma s272 (p := 104) rfl] at r2
          refine sf_f1_eq (fun h275 => ?_) (fun h275 => ?_)
          · refine sf_iconst sf_c3 (fun z276 ez276 => ?_)
            refine sf_puti Iw270 s272 rfl rfl (sf_bd _) rfl rfl rfl (fun w277 Iw277 sw277 kw277 uw277 => ?_)
            have c278 := sf_ma kw277 (p := 117) rfl
            have c279 := sf_mf kw277 (p := 71) (j := 56) rfl
            clear kw277
            refine sf_aload rfl ?_
            refine sf_geti Iw277 rfl rfl (fun v280 lv280 uv280 ev280 => ?_)
            rw [uw277] at ev280
            refine sf_f1_le (fun h281 => absurd h281 (by omega)) (fun h281 => ?_)
            refine sf_lconst (by decide : (0 : Int64).toInt = 0) (fun z282 ez282 => ?_)
            refine sf_lreturn rfl rfl ?_
            exact hR _ _ Iw277 sw277 
          · refine sf_aload rfl ?_
            refine sf_geti Iw270 rfl rfl (fun v283 lv283 uv283 ev283 => ?_)
            rw [c274] at ev283
            refine sf_aload rfl ?_
            refine sf_getr Iw270 rfl rfl ?_
            refine sf_iload rfl ?_
            refine sf_iald Iw270 rfl (by omega) (fun v284 lv284 uv284 ev284 => ?_)
            rw [sf_ma s272 (p := 104) rfl] at ev284
            refine sf_iadd (by omega) (fun v285 ev285 => ?_)
            refine sf_iconst sf_c40 (fun z286 ez286 => ?_)
            refine sf_f2_le (fun h287 => ?_) (fun h287 => ?_)
            · refine sf_iconst sf_c0 (fun z288 ez288 => ?_)
              refine sf_puti Iw270 s272 rfl rfl (sf_bd _) rfl rfl rfl (fun w289 Iw289 sw289 kw289 uw289 => ?_)
              have c290 := sf_ma kw289 (p := 117) rfl
              have c291 := sf_mf kw289 (p := 71) (j := 56) rfl
              clear kw289
              refine sf_aload rfl ?_
              refine sf_geti Iw289 rfl rfl (fun v292 lv292 uv292 ev292 => ?_)
              rw [uw289] at ev292
              refine sf_f1_le (fun h293 => ?_) (fun h293 => absurd h293 (by omega))
              refine sf_aload rfl ?_
              refine sf_iload rfl ?_
              refine sf_call2 rfl rfl rfl ?_
              refine sf_rv Iw289 rfl ?_
              refine sc_M_assess Iw289 (by omega) (by omega) (by rw [sf_ma sw289 (p := 104) rfl]; rw [c290]; exact r2 (by omega)) (fun v294 w295 Iw295 tw295 => ?_)
              have s297 := sf_mt sw289 tw295 rfl
              have c298 := sf_mf tw295 (p := 71) (j := 0) rfl
              have c299 := sf_ma tw295 (p := 117) rfl
              have c300 := sf_mf tw295 (p := 71) (j := 56) rfl
              refine sf_lstore (L' := [(0, .inl (.ref 71)), (1, .inl (.int a_d))]) rfl ?_
              refine sf_aload rfl ?_
              refine sf_iload rfl ?_
              refine sf_call2 rfl rfl rfl ?_
              refine sf_rv Iw295 rfl ?_
              refine sc_M_book Iw295 (by omega) (by omega) (fun w301 Iw301 tw301 => ?_)
              have s303 := sf_mt s297 tw301 rfl
              have c304 := sf_mf tw301 (p := 71) (j := 0) rfl
              have c305 := sf_ma tw301 (p := 117) rfl
              have c306 := sf_mf tw301 (p := 71) (j := 56) rfl
              refine sf_iconst sf_c4 (fun z307 ez307 => ?_)
              refine sf_iload rfl ?_
              refine sf_imull (n := 4) (by omega) (by omega) (fun v308 ev308 => ?_)
              refine sf_istore (L' := [(2, .inl (.long v294)), (0, .inl (.ref 71)), (1, .inl (.int a_d))]) rfl ?_
              refine sf_can (L' := [(0, .inl (.ref 71)), (1, .inl (.int a_d)), (2, .inl (.long v294)), (4, .inl (.int v308))]) rfl ?_
              exact i_95 w301 v294 v308 Iw301 s303 (by omega) (by omega) (by rw [c306, c300, c291, c274]; omega) (by omega) (by omega) (by omega)
            · refine sf_iconst sf_c4 (fun z309 ez309 => ?_)
              refine sf_puti Iw270 s272 rfl rfl (sf_bd _) rfl rfl rfl (fun w310 Iw310 sw310 kw310 uw310 => ?_)
              have c311 := sf_ma kw310 (p := 117) rfl
              have c312 := sf_mf kw310 (p := 71) (j := 56) rfl
              clear kw310
              refine sf_aload rfl ?_
              refine sf_geti Iw310 rfl rfl (fun v313 lv313 uv313 ev313 => ?_)
              rw [uw310] at ev313
              refine sf_f1_le (fun h314 => absurd h314 (by omega)) (fun h314 => ?_)
              refine sf_lconst (by decide : (0 : Int64).toInt = 0) (fun z315 ez315 => ?_)
              refine sf_lreturn rfl rfl ?_
              exact hR _ _ Iw310 sw310 
      · refine sf_iconst sf_c2 (fun z316 ez316 => ?_)
        refine sf_puti hI0 hs0 rfl rfl (sf_bd _) rfl rfl rfl (fun w317 Iw317 sw317 kw317 uw317 => ?_)
        have c318 := sf_ma kw317 (p := 117) rfl
        have c319 := sf_mf kw317 (p := 71) (j := 56) rfl
        clear kw317
        refine sf_aload rfl ?_
        refine sf_geti Iw317 rfl rfl (fun v320 lv320 uv320 ev320 => ?_)
        rw [uw317] at ev320
        refine sf_f1_le (fun h321 => absurd h321 (by omega)) (fun h321 => ?_)
        refine sf_lconst (by decide : (0 : Int64).toInt = 0) (fun z322 ez322 => ?_)
        refine sf_lreturn rfl rfl ?_
        exact hR _ _ Iw317 sw317 
def sm_M_amend : List Nat := [71, 91, 92, 110, 111, 112, 114, 115, 116, 117, 118, 119, 120, 122, 124, 8100, 8166]
set_option maxRecDepth 100000 in
set_option maxHeartbeats 4000000 in
theorem sc_M_amend {w0 : wq_W} (hI0 : sf_I w0) {rt : Option wq_V → wq_W → Prop} {xt : Nat → wq_W → Prop} {a_d : Int32} {a_l : Int32} {a_field : Int32} {a_v : Int32}  (hR : ∀ (r : Int64) (w : wq_W), sf_I w → sf_m sm_M_amend w0 w → rt (some (.inl (.long r))) w) : ks_M_amend [.inl (.ref 71), .inl (.int a_d), .inl (.int a_l), .inl (.int a_field), .inl (.int a_v)] w0 rt xt := by
  have hs0 : sf_m sm_M_amend w0 w0 := sf_m0
  have hl : ∀ n : Nat, (∀ (w : wq_W) (x5 : Int64) (x7 : Int32), (sf_I w) → (sf_m sm_M_amend w0 w) → (0 ≤ x7.toInt) → (x7.toInt ≤ 4) → (0 ≤ a_d.toInt) → (a_d.toInt ≤ 11) → (∀ k : Nat, (k : Int) < (sf_a w0 104 a_d.toInt.toNat).toInt → 0 ≤ (sf_a w 117 k).toInt) → (1000 - x7.toInt < (n : Int)) → ku_M_amend rt xt n 95 [(0, .inl (.ref 71)), (1, .inl (.int a_d)), (5, .inl (.long x5)), (7, .inl (.int x7))] [] w 0 0) ∧ (∀ (w : wq_W) (x5 : Int64) (x7 : Int64) (x9 : Int32), (sf_I w) → (sf_m sm_M_amend w0 w) → (0 ≤ x9.toInt) → (x9.toInt ≤ 48) → (0 ≤ a_d.toInt) → (a_d.toInt ≤ 11) → (48 - x9.toInt < (n : Int)) → ku_M_amend rt xt n 297 [(0, .inl (.ref 71)), (1, .inl (.int a_d)), (5, .inl (.long x5)), (7, .inl (.long x7)), (9, .inl (.int x9))] [] w 0 0) := by
    intro n
    induction n with
    | zero =>
      refine ⟨?_, ?_⟩
      · intros; omega
      · intros; omega
    | succ n ih =>
      obtain ⟨i_95, i_297⟩ := ih
      refine ⟨?_, ?_⟩
      · intro w x5 x7 I_w s_w l_x7 u_x7 f_0 f_1 f_2 hm
        show kh_M_amend_95 rt xt (ku_M_amend rt xt n) [(0, .inl (.ref 71)), (1, .inl (.int a_d)), (5, .inl (.long x5)), (7, .inl (.int x7))] [] w 0 0
        generalize ku_M_amend rt xt n = K at i_95 i_297 ⊢
        refine sf_iload rfl ?_
        refine sf_aload rfl ?_
        refine sf_getr I_w rfl rfl ?_
        refine sf_iload rfl ?_
        refine sf_iald I_w rfl (by omega) (fun v1 lv1 uv1 ev1 => ?_)
        rw [sf_ma s_w (p := 104) rfl] at ev1
        refine sf_f2_ge (fun h2 => ?_) (fun h2 => ?_)
        · refine sf_aload rfl ?_
          refine sf_iload rfl ?_
          refine sf_call2 rfl rfl rfl ?_
          refine sf_rv I_w rfl ?_
          refine sc_M_workOut I_w (by omega) (by omega) (by rw [sf_ma s_w (p := 104) rfl]; exact f_2) (fun v3 w4 Iw4 tw4 => ?_)
          have s6 := sf_mt s_w tw4 rfl
          have c7 := sf_mf tw4 (p := 71) (j := 0) rfl
          have c8 := sf_ma tw4 (p := 117) rfl
          refine sf_lstore (L' := [(0, .inl (.ref 71)), (1, .inl (.int a_d)), (5, .inl (.long x5))]) rfl ?_
          refine sf_aload rfl ?_
          refine sf_iload rfl ?_
          refine sf_call2 rfl rfl rfl ?_
          refine sf_rv Iw4 rfl ?_
          refine sc_M_book Iw4 (by omega) (by omega) (fun w9 Iw9 tw9 => ?_)
          have s11 := sf_mt s6 tw9 rfl
          have c12 := sf_mf tw9 (p := 71) (j := 0) rfl
          have c13 := sf_ma tw9 (p := 117) rfl
          refine sf_iconst sf_c4 (fun z14 ez14 => ?_)
          refine sf_iload rfl ?_
          refine sf_imull (n := 4) (by omega) (by omega) (fun v15 ev15 => ?_)
          refine sf_istore (L' := [(7, .inl (.long v3)), (0, .inl (.ref 71)), (1, .inl (.int a_d)), (5, .inl (.long x5))]) rfl ?_
          refine sf_can (L' := [(0, .inl (.ref 71)), (1, .inl (.int a_d)), (5, .inl (.long x5)), (7, .inl (.long v3)), (9, .inl (.int v15))]) rfl ?_
          exact i_297 w9 x5 v3 v15 Iw9 s11 (by omega) (by omega) (by omega) (by omega) (by omega)
        · refine sf_iconst sf_c4 (fun z16 ez16 => ?_)
          refine sf_iload rfl ?_
          refine sf_imull (n := 4) (by omega) (by omega) (fun v17 ev17 => ?_)
          refine sf_iload rfl ?_
          refine sf_iadd (by omega) (fun v18 ev18 => ?_)
          refine sf_istore (L' := [(0, .inl (.ref 71)), (1, .inl (.int a_d)), (5, .inl (.long x5)), (7, .inl (.int x7))]) rfl ?_
          refine sf_lload rfl ?_
          refine sf_aload rfl ?_
          refine sf_getr I_w rfl rfl ?_
          refine sf_iload rfl ?_
          refine sf_lald I_w rfl (by omega) (fun v19 ev19 => ?_)
          clear ev19
          refine sf_l2 (fun v20 => ?_)
          refine sf_lstore (L' := [(8, .inl (.int v18)), (0, .inl (.ref 71)), (1, .inl (.int a_d)), (7, .inl (.int x7))]) rfl ?_
          refine sf_aload rfl ?_
          refine sf_aload rfl ?_
          refine sf_getr I_w rfl rfl ?_
          refine sf_iload rfl ?_
          refine sf_zald I_w rfl (by omega) (fun v21 lv21 uv21 ev21 => ?_)
          clear ev21
          refine sf_f1_eq (fun h22 => ?_) (fun h22 => ?_)
          · refine sf_aload rfl ?_
            refine sf_getl I_w rfl rfl (fun v23 => ?_)
            refine sf_aload rfl ?_
            refine sf_getr I_w rfl rfl ?_
            refine sf_iload rfl ?_
            refine sf_lald I_w rfl (by omega) (fun v24 ev24 => ?_)
            clear ev24
            refine sf_l2 (fun v25 => ?_)
            refine sf_putl I_w s_w rfl rfl rfl rfl rfl (fun w26 Iw26 sw26 kw26 uw26 => ?_)
            have c27 := sf_mf kw26 (p := 71) (j := 0) rfl
            have c28 := sf_ma kw26 (p := 117) rfl
            clear kw26 uw26
            refine sf_aload rfl ?_
            refine sf_getr Iw26 rfl rfl ?_
            refine sf_iload rfl ?_
            refine sf_iald Iw26 rfl (by omega) (fun v29 lv29 uv29 ev29 => ?_)
            refine sf_aload rfl ?_
            refine sf_getr Iw26 rfl rfl ?_
            refine sf_iload rfl ?_
            refine sf_iald Iw26 rfl (by omega) (fun v30 lv30 uv30 ev30 => ?_)
            refine sf_f2_eq (fun h31 => ?_) (fun h31 => ?_)
            · refine sf_aload rfl ?_
              refine sf_getr Iw26 rfl rfl ?_
              refine sf_iload rfl ?_
              refine sf_iald Iw26 rfl (by omega) (fun v32 lv32 uv32 ev32 => ?_)
              clear lv32 uv32
              clear ev32
              refine sf_aload rfl ?_
              refine sf_getr Iw26 rfl rfl ?_
              refine sf_iconst sf_c3 (fun z33 ez33 => ?_)
              refine sf_iload rfl ?_
              refine sf_imull (n := 3) (by omega) (by omega) (fun v34 ev34 => ?_)
              refine sf_iald Iw26 rfl (by omega) (fun v35 lv35 uv35 ev35 => ?_)
              refine sf_f2_ge (fun h36 => ?_) (fun h36 => ?_)
              · refine sf_aload rfl ?_
                refine sf_getr Iw26 rfl rfl ?_
                refine sf_iconst sf_c3 (fun z37 ez37 => ?_)
                refine sf_iload rfl ?_
                refine sf_imull (n := 3) (by omega) (by omega) (fun v38 ev38 => ?_)
                refine sf_iald Iw26 rfl (by omega) (fun v39 lv39 uv39 ev39 => ?_)
                refine sf_istore (L' := [(5, .inl (.long v20)), (8, .inl (.int v18)), (0, .inl (.ref 71)), (1, .inl (.int a_d)), (7, .inl (.int x7))]) rfl ?_
                refine sf_aload rfl ?_
                refine sf_getr Iw26 rfl rfl ?_
                refine sf_iload rfl ?_
                refine sf_iald Iw26 rfl (by omega) (fun v40 lv40 uv40 ev40 => ?_)
                refine sf_f1_lt (fun h41 => ?_) (fun h41 => ?_)
                · refine sf_aload rfl ?_
                  refine sf_getr Iw26 rfl rfl ?_
                  refine sf_iload rfl ?_
                  refine sf_iload rfl ?_
                  refine sf_iast Iw26 sw26 rfl (by omega) (sf_bd _) rfl rfl (fun w42 Iw42 sw42 kw42 uw42 => ?_)
                  have c43 := sf_mf kw42 (p := 71) (j := 0) rfl
                  have c44 := sf_ma kw42 (p := 117) rfl
                  clear kw42 uw42
                  refine sf_iinc (L' := [(9, .inl (.int v39)), (5, .inl (.long v20)), (8, .inl (.int v18)), (0, .inl (.ref 71)), (1, .inl (.int a_d))]) sf_c1 rfl rfl (by omega) (fun v45 ev45 => ?_)
                  refine sf_can (L' := [(0, .inl (.ref 71)), (1, .inl (.int a_d)), (5, .inl (.long v20)), (7, .inl (.int v45))]) rfl ?_
                  exact i_95 w42 v20 v45 Iw42 sw42 (by omega) (by omega) (by omega) (by omega) (by rw [c44, c28]; first | exact f_2 | exact r2 (by omega)) (by omega)
                · refine sf_aload rfl ?_
                  refine sf_getr Iw26 rfl rfl ?_
                  refine sf_aload rfl ?_
                  refine sf_getr Iw26 rfl rfl ?_
                  refine sf_iload rfl ?_
                  refine sf_iald Iw26 rfl (by omega) (fun v46 lv46 uv46 ev46 => ?_)
                  refine sf_aload rfl ?_
                  refine sf_getr Iw26 rfl rfl ?_
                  refine sf_aload rfl ?_
                  refine sf_getr Iw26 rfl rfl ?_
                  refine sf_iload rfl ?_
                  refine sf_iald Iw26 rfl (by omega) (fun v47 lv47 uv47 ev47 => ?_)
                  refine sf_iald Iw26 rfl (by omega) (fun v48 lv48 uv48 ev48 => ?_)
                  clear lv48 uv48
                  clear ev48
                  refine sf_aload rfl ?_
                  refine sf_getr Iw26 rfl rfl ?_
                  refine sf_iload rfl ?_
                  refine sf_iald Iw26 rfl (by omega) (fun v49 lv49 uv49 ev49 => ?_)
                  clear lv49 uv49
                  clear ev49
                  refine sf_i2 (fun v50 => ?_)
                  refine sf_iload rfl ?_
                  refine sf_i2 (fun v51 => ?_)
                  refine sf_iast Iw26 sw26 rfl (by omega) (sf_bd _) rfl rfl (fun w52 Iw52 sw52 kw52 uw52 => ?_)
                  have c53 := sf_mf kw52 (p := 71) (j := 0) rfl
                  have c54 := sf_ma kw52 (p := 117) rfl
                  clear kw52 uw52
                  refine sf_aload rfl ?_
                  refine sf_getr Iw52 rfl rfl ?_
                  refine sf_iload rfl ?_
                  refine sf_iload rfl ?_
                  refine sf_iast Iw52 sw52 rfl (by omega) (sf_bd _) rfl rfl (fun w55 Iw55 sw55 kw55 uw55 => ?_)
                  have c56 := sf_mf kw55 (p := 71) (j := 0) rfl
                  have c57 := sf_ma kw55 (p := 117) rfl
                  clear kw55 uw55
                  refine sf_iinc (L' := [(9, .inl (.int v39)), (5, .inl (.long v20)), (8, .inl (.int v18)), (0, .inl (.ref 71)), (1, .inl (.int a_d))]) sf_c1 rfl rfl (by omega) (fun v58 ev58 => ?_)
                  refine sf_can (L' := [(0, .inl (.ref 71)), (1, .inl (.int a_d)), (5, .inl (.long v20)), (7, .inl (.int v58))]) rfl ?_
                  exact i_95 w55 v20 v58 Iw55 sw55 (by omega) (by omega) (by omega) (by omega) (by rw [c57, c54, c28]; first | exact f_2 | exact r2 (by omega)) (by omega)
              · refine sf_aload rfl ?_
                refine sf_getr Iw26 rfl rfl ?_
                refine sf_iload rfl ?_
                refine sf_iald Iw26 rfl (by omega) (fun v59 lv59 uv59 ev59 => ?_)
                clear lv59 uv59
                clear ev59
                refine sf_istore (L' := [(5, .inl (.long v20)), (8, .inl (.int v18)), (0, .inl (.ref 71)), (1, .inl (.int a_d)), (7, .inl (.int x7))]) rfl ?_
                refine sf_aload rfl ?_
                refine sf_getr Iw26 rfl rfl ?_
                refine sf_iload rfl ?_
                refine sf_iald Iw26 rfl (by omega) (fun v60 lv60 uv60 ev60 => ?_)
                refine sf_f1_lt (fun h61 => ?_) (fun h61 => ?_)
                · refine sf_aload rfl ?_
                  refine sf_getr Iw26 rfl rfl ?_
                  refine sf_iload rfl ?_
                  refine sf_iload rfl ?_
                  refine sf_iast Iw26 sw26 rfl (by omega) (sf_bd _) rfl rfl (fun w62 Iw62 sw62 kw62 uw62 => ?_)
                  have c63 := sf_mf kw62 (p := 71) (j := 0) rfl
                  have c64 := sf_ma kw62 (p := 117) rfl
                  clear kw62 uw62
                  refine sf_iinc (L' := [(9, .inl (.int v59)), (5, .inl (.long v20)), (8, .inl (.int v18)), (0, .inl (.ref 71)), (1, .inl (.int a_d))]) sf_c1 rfl rfl (by omega) (fun v65 ev65 => ?_)
                  refine sf_can (L' := [(0, .inl (.ref 71)), (1, .inl (.int a_d)), (5, .inl (.long v20)), (7, .inl (.int v65))]) rfl ?_
                  exact i_95 w62 v20 v65 Iw62 sw62 (by omega) (by omega) (by omega) (by omega) (by rw [c64, c28]; first | exact f_2 | exact r2 (by omega)) (by omega)
                · refine sf_aload rfl ?_
                  refine sf_getr Iw26 rfl rfl ?_
                  refine sf_aload rfl ?_
                  refine sf_getr Iw26 rfl rfl ?_
                  refine sf_iload rfl ?_
                  refine sf_iald Iw26 rfl (by omega) (fun v66 lv66 uv66 ev66 => ?_)
                  refine sf_aload rfl ?_
                  refine sf_getr Iw26 rfl rfl ?_
                  refine sf_aload rfl ?_
                  refine sf_getr Iw26 rfl rfl ?_
                  refine sf_iload rfl ?_
                  refine sf_iald Iw26 rfl (by omega) (fun v67 lv67 uv67 ev67 => ?_)
                  refine sf_iald Iw26 rfl (by omega) (fun v68 lv68 uv68 ev68 => ?_)
                  clear lv68 uv68
                  clear ev68
                  refine sf_aload rfl ?_
                  refine sf_getr Iw26 rfl rfl ?_
                  refine sf_iload rfl ?_
                  refine sf_iald Iw26 rfl (by omega) (fun v69 lv69 uv69 ev69 => ?_)
                  clear lv69 uv69
                  clear ev69
                  refine sf_i2 (fun v70 => ?_)
                  refine sf_iload rfl ?_
                  refine sf_i2 (fun v71 => ?_)
                  refine sf_iast Iw26 sw26 rfl (by omega) (sf_bd _) rfl rfl (fun w72 Iw72 sw72 kw72 uw72 => ?_)
                  have c73 := sf_mf kw72 (p := 71) (j := 0) rfl
                  have c74 := sf_ma kw72 (p := 117) rfl
                  clear kw72 uw72
                  refine sf_aload rfl ?_
                  refine sf_getr Iw72 rfl rfl ?_
                  refine sf_iload rfl ?_
                  refine sf_iload rfl ?_
                  refine sf_iast Iw72 sw72 rfl (by omega) (sf_bd _) rfl rfl (fun w75 Iw75 sw75 kw75 uw75 => ?_)
                  have c76 := sf_mf kw75 (p := 71) (j := 0) rfl
                  have c77 := sf_ma kw75 (p := 117) rfl
                  clear kw75 uw75
                  refine sf_iinc (L' := [(9, .inl (.int v59)), (5, .inl (.long v20)), (8, .inl (.int v18)), (0, .inl (.ref 71)), (1, .inl (.int a_d))]) sf_c1 rfl rfl (by omega) (fun v78 ev78 => ?_)
                  refine sf_can (L' := [(0, .inl (.ref 71)), (1, .inl (.int a_d)), (5, .inl (.long v20)), (7, .inl (.int v78))]) rfl ?_
                  exact i_95 w75 v20 v78 Iw75 sw75 (by omega) (by omega) (by omega) (by omega) (by rw [c77, c74, c28]; first | exact f_2 | exact r2 (by omega)) (by omega)
            · refine sf_iconst sf_c0 (fun z79 ez79 => ?_)
              refine sf_istore (L' := [(5, .inl (.long v20)), (8, .inl (.int v18)), (0, .inl (.ref 71)), (1, .inl (.int a_d)), (7, .inl (.int x7))]) rfl ?_
              refine sf_aload rfl ?_
              refine sf_getr Iw26 rfl rfl ?_
              refine sf_iload rfl ?_
              refine sf_iald Iw26 rfl (by omega) (fun v80 lv80 uv80 ev80 => ?_)
              refine sf_f1_lt (fun h81 => ?_) (fun h81 => ?_)
              · refine sf_aload rfl ?_
                refine sf_getr Iw26 rfl rfl ?_
                refine sf_iload rfl ?_
                refine sf_iload rfl ?_
                refine sf_iast Iw26 sw26 rfl (by omega) (sf_bd _) rfl rfl (fun w82 Iw82 sw82 kw82 uw82 => ?_)
                have c83 := sf_mf kw82 (p := 71) (j := 0) rfl
                have c84 := sf_ma kw82 (p := 117) rfl
                clear kw82 uw82
                refine sf_iinc (L' := [(9, .inl (.int z79)), (5, .inl (.long v20)), (8, .inl (.int v18)), (0, .inl (.ref 71)), (1, .inl (.int a_d))]) sf_c1 rfl rfl (by omega) (fun v85 ev85 => ?_)
                refine sf_can (L' := [(0, .inl (.ref 71)), (1, .inl (.int a_d)), (5, .inl (.long v20)), (7, .inl (.int v85))]) rfl ?_
                exact i_95 w82 v20 v85 Iw82 sw82 (by omega) (by omega) (by omega) (by omega) (by rw [c84, c28]; first | exact f_2 | exact r2 (by omega)) (by omega)
              · refine sf_aload rfl ?_
                refine sf_getr Iw26 rfl rfl ?_
                refine sf_aload rfl ?_
                refine sf_getr Iw26 rfl rfl ?_
                refine sf_iload rfl ?_
                refine sf_iald Iw26 rfl (by omega) (fun v86 lv86 uv86 ev86 => ?_)
                refine sf_aload rfl ?_
                refine sf_getr Iw26 rfl rfl ?_
                refine sf_aload rfl ?_
                refine sf_getr Iw26 rfl rfl ?_
                refine sf_iload rfl ?_
                refine sf_iald Iw26 rfl (by omega) (fun v87 lv87 uv87 ev87 => ?_)
                refine sf_iald Iw26 rfl (by omega) (fun v88 lv88 uv88 ev88 => ?_)
                clear lv88 uv88
                clear ev88
                refine sf_aload rfl ?_
                refine sf_getr Iw26 rfl rfl ?_
                refine sf_iload rfl ?_
                refine sf_iald Iw26 rfl (by omega) (fun v89 lv89 uv89 ev89 => ?_)
                clear lv89 uv89
                clear ev89
                refine sf_i2 (fun v90 => ?_)
                refine sf_iload rfl ?_
                refine sf_i2 (fun v91 => ?_)
                refine sf_iast Iw26 sw26 rfl (by omega) (sf_bd _) rfl rfl (fun w92 Iw92 sw92 kw92 uw92 => ?_)
                have c93 := sf_mf kw92 (p := 71) (j := 0) rfl
                have c94 := sf_ma kw92 (p := 117) rfl
                clear kw92 uw92
                refine sf_aload rfl ?_
                refine sf_getr Iw92 rfl rfl ?_
                refine sf_iload rfl ?_
                refine sf_iload rfl ?_
                refine sf_iast Iw92 sw92 rfl (by omega) (sf_bd _) rfl rfl (fun w95 Iw95 sw95 kw95 uw95 => ?_)
                have c96 := sf_mf kw95 (p := 71) (j := 0) rfl
                have c97 := sf_ma kw95 (p := 117) rfl
                clear kw95 uw95
                refine sf_iinc (L' := [(9, .inl (.int z79)), (5, .inl (.long v20)), (8, .inl (.int v18)), (0, .inl (.ref 71)), (1, .inl (.int a_d))]) sf_c1 rfl rfl (by omega) (fun v98 ev98 => ?_)
                refine sf_can (L' := [(0, .inl (.ref 71)), (1, .inl (.int a_d)), (5, .inl (.long v20)), (7, .inl (.int v98))]) rfl ?_
                exact i_95 w95 v20 v98 Iw95 sw95 (by omega) (by omega) (by omega) (by omega) (by rw [c97, c94, c28]; first | exact f_2 | exact r2 (by omega)) (by omega)
          · refine sf_aload rfl ?_
            refine sf_getl I_w rfl rfl (fun v99 => ?_)
            refine sf_putl I_w s_w rfl rfl rfl rfl rfl (fun w100 Iw100 sw100 kw100 uw100 => ?_)
            have c101 := sf_mf kw100 (p := 71) (j := 0) rfl
            have c102 := sf_ma kw100 (p := 117) rfl
            clear kw100 uw100
            refine sf_aload rfl ?_
            refine sf_getr Iw100 rfl rfl ?_
            refine sf_iload rfl ?_
            refine sf_iald Iw100 rfl (by omega) (fun v103 lv103 uv103 ev103 => ?_)
            refine sf_aload rfl ?_
            refine sf_getr Iw100 rfl rfl ?_
            refine sf_iload rfl ?_
            refine sf_iald Iw100 rfl (by omega) (fun v104 lv104 uv104 ev104 => ?_)
            refine sf_f2_eq (fun h105 => ?_) (fun h105 => ?_)
            · refine sf_aload rfl ?_
              refine sf_getr Iw100 rfl rfl ?_
              refine sf_iload rfl ?_
              refine sf_iald Iw100 rfl (by omega) (fun v106 lv106 uv106 ev106 => ?_)
              clear lv106 uv106
              clear ev106
              refine sf_aload rfl ?_
              refine sf_getr Iw100 rfl rfl ?_
              refine sf_iconst sf_c3 (fun z107 ez107 => ?_)
              refine sf_iload rfl ?_
              refine sf_imull (n := 3) (by omega) (by omega) (fun v108 ev108 => ?_)
              refine sf_iald Iw100 rfl (by omega) (fun v109 lv109 uv109 ev109 => ?_)
              refine sf_f2_ge (fun h110 => ?_) (fun h110 => ?_)
              · refine sf_aload rfl ?_
                refine sf_getr Iw100 rfl rfl ?_
                refine sf_iconst sf_c3 (fun z111 ez111 => ?_)
                refine sf_iload rfl ?_
                refine sf_imull (n := 3) (by omega) (by omega) (fun v112 ev112 => ?_)
                refine sf_iald Iw100 rfl (by omega) (fun v113 lv113 uv113 ev113 => ?_)
                refine sf_istore (L' := [(5, .inl (.long v20)), (8, .inl (.int v18)), (0, .inl (.ref 71)), (1, .inl (.int a_d)), (7, .inl (.int x7))]) rfl ?_
                refine sf_aload rfl ?_
                refine sf_getr Iw100 rfl rfl ?_
                refine sf_iload rfl ?_
                refine sf_iald Iw100 rfl (by omega) (fun v114 lv114 uv114 ev114 => ?_)
                refine sf_f1_lt (fun h115 => ?_) (fun h115 => ?_)
                · refine sf_aload rfl ?_
                  refine sf_getr Iw100 rfl rfl ?_
                  refine sf_iload rfl ?_
                  refine sf_iload rfl ?_
                  refine sf_iast Iw100 sw100 rfl (by omega) (sf_bd _) rfl rfl (fun w116 Iw116 sw116 kw116 uw116 => ?_)
                  have c117 := sf_mf kw116 (p := 71) (j := 0) rfl
                  have c118 := sf_ma kw116 (p := 117) rfl
                  clear kw116 uw116
                  refine sf_iinc (L' := [(9, .inl (.int v113)), (5, .inl (.long v20)), (8, .inl (.int v18)), (0, .inl (.ref 71)), (1, .inl (.int a_d))]) sf_c1 rfl rfl (by omega) (fun v119 ev119 => ?_)
                  refine sf_can (L' := [(0, .inl (.ref 71)), (1, .inl (.int a_d)), (5, .inl (.long v20)), (7, .inl (.int v119))]) rfl ?_
                  exact i_95 w116 v20 v119 Iw116 sw116 (by omega) (by omega) (by omega) (by omega) (by rw [c118, c102]; first | exact f_2 | exact r2 (by omega)) (by omega)
                · refine sf_aload rfl ?_
                  refine sf_getr Iw100 rfl rfl ?_
                  refine sf_aload rfl ?_
                  refine sf_getr Iw100 rfl rfl ?_
                  refine sf_iload rfl ?_
                  refine sf_iald Iw100 rfl (by omega) (fun v120 lv120 uv120 ev120 => ?_)
                  refine sf_aload rfl ?_
                  refine sf_getr Iw100 rfl rfl ?_
                  refine sf_aload rfl ?_
                  refine sf_getr Iw100 rfl rfl ?_
                  refine sf_iload rfl ?_
                  refine sf_iald Iw100 rfl (by omega) (fun v121 lv121 uv121 ev121 => ?_)
                  refine sf_iald Iw100 rfl (by omega) (fun v122 lv122 uv122 ev122 => ?_)
                  clear lv122 uv122
                  clear ev122
                  refine sf_aload rfl ?_
                  refine sf_getr Iw100 rfl rfl ?_
                  refine sf_iload rfl ?_
                  refine sf_iald Iw100 rfl (by omega) (fun v123 lv123 uv123 ev123 => ?_)
                  clear lv123 uv123
                  clear ev123
                  refine sf_i2 (fun v124 => ?_)
                  refine sf_iload rfl ?_
                  refine sf_i2 (fun v125 => ?_)
                  refine sf_iast Iw100 sw100 rfl (by omega) (sf_bd _) rfl rfl (fun w126 Iw126 sw126 kw126 uw126 => ?_)
                  have c127 := sf_mf kw126 (p := 71) (j := 0) rfl
                  have c128 := sf_ma kw126 (p := 117) rfl
                  clear kw126 uw126
                  refine sf_aload rfl ?_
                  refine sf_getr Iw126 rfl rfl ?_
                  refine sf_iload rfl ?_
                  refine sf_iload rfl ?_
                  refine sf_iast Iw126 sw126 rfl (by omega) (sf_bd _) rfl rfl (fun w129 Iw129 sw129 kw129 uw129 => ?_)
                  have c130 := sf_mf kw129 (p := 71) (j := 0) rfl
                  have c131 := sf_ma kw129 (p := 117) rfl
                  clear kw129 uw129
                  refine sf_iinc (L' := [(9, .inl (.int v113)), (5, .inl (.long v20)), (8, .inl (.int v18)), (0, .inl (.ref 71)), (1, .inl (.int a_d))]) sf_c1 rfl rfl (by omega) (fun v132 ev132 => ?_)
                  refine sf_can (L' := [(0, .inl (.ref 71)), (1, .inl (.int a_d)), (5, .inl (.long v20)), (7, .inl (.int v132))]) rfl ?_
                  exact i_95 w129 v20 v132 Iw129 sw129 (by omega) (by omega) (by omega) (by omega) (by rw [c131, c128, c102]; first | exact f_2 | exact r2 (by omega)) (by omega)
              · refine sf_aload rfl ?_
                refine sf_getr Iw100 rfl rfl ?_
                refine sf_iload rfl ?_
                refine sf_iald Iw100 rfl (by omega) (fun v133 lv133 uv133 ev133 => ?_)
                clear lv133 uv133
                clear ev133
                refine sf_istore (L' := [(5, .inl (.long v20)), (8, .inl (.int v18)), (0, .inl (.ref 71)), (1, .inl (.int a_d)), (7, .inl (.int x7))]) rfl ?_
                refine sf_aload rfl ?_
                refine sf_getr Iw100 rfl rfl ?_
                refine sf_iload rfl ?_
                refine sf_iald Iw100 rfl (by omega) (fun v134 lv134 uv134 ev134 => ?_)
                refine sf_f1_lt (fun h135 => ?_) (fun h135 => ?_)
                · refine sf_aload rfl ?_
                  refine sf_getr Iw100 rfl rfl ?_
                  refine sf_iload rfl ?_
                  refine sf_iload rfl ?_
                  refine sf_iast Iw100 sw100 rfl (by omega) (sf_bd _) rfl rfl (fun w136 Iw136 sw136 kw136 uw136 => ?_)
                  have c137 := sf_mf kw136 (p := 71) (j := 0) rfl
                  have c138 := sf_ma kw136 (p := 117) rfl
                  clear kw136 uw136
                  refine sf_iinc (L' := [(9, .inl (.int v133)), (5, .inl (.long v20)), (8, .inl (.int v18)), (0, .inl (.ref 71)), (1, .inl (.int a_d))]) sf_c1 rfl rfl (by omega) (fun v139 ev139 => ?_)
                  refine sf_can (L' := [(0, .inl (.ref 71)), (1, .inl (.int a_d)), (5, .inl (.long v20)), (7, .inl (.int v139))]) rfl ?_
                  exact i_95 w136 v20 v139 Iw136 sw136 (by omega) (by omega) (by omega) (by omega) (by rw [c138, c102]; first | exact f_2 | exact r2 (by omega)) (by omega)
                · refine sf_aload rfl ?_
                  refine sf_getr Iw100 rfl rfl ?_
                  refine sf_aload rfl ?_
                  refine sf_getr Iw100 rfl rfl ?_
                  refine sf_iload rfl ?_
                  refine sf_iald Iw100 rfl (by omega) (fun v140 lv140 uv140 ev140 => ?_)
                  refine sf_aload rfl ?_
                  refine sf_getr Iw100 rfl rfl ?_
                  refine sf_aload rfl ?_
                  refine sf_getr Iw100 rfl rfl ?_
                  refine sf_iload rfl ?_
                  refine sf_iald Iw100 rfl (by omega) (fun v141 lv141 uv141 ev141 => ?_)
                  refine sf_iald Iw100 rfl (by omega) (fun v142 lv142 uv142 ev142 => ?_)
                  clear lv142 uv142
                  clear ev142
                  refine sf_aload rfl ?_
                  refine sf_getr Iw100 rfl rfl ?_
                  refine sf_iload rfl ?_
                  refine sf_iald Iw100 rfl (by omega) (fun v143 lv143 uv143 ev143 => ?_)
                  clear lv143 uv143
                  clear ev143
                  refine sf_i2 (fun v144 => ?_)
                  refine sf_iload rfl ?_
                  refine sf_i2 (fun v145 => ?_)
                  refine sf_iast Iw100 sw100 rfl (by omega) (sf_bd _) rfl rfl (fun w146 Iw146 sw146 kw146 uw146 => ?_)
                  have c147 := sf_mf kw146 (p := 71) (j := 0) rfl
                  have c148 := sf_ma kw146 (p := 117) rfl
                  clear kw146 uw146
                  refine sf_aload rfl ?_
                  refine sf_getr Iw146 rfl rfl ?_
                  refine sf_iload rfl ?_
                  refine sf_iload rfl ?_
                  refine sf_iast Iw146 sw146 rfl (by omega) (sf_bd _) rfl rfl (fun w149 Iw149 sw149 kw149 uw149 => ?_)
                  have c150 := sf_mf kw149 (p := 71) (j := 0) rfl
                  have c151 := sf_ma kw149 (p := 117) rfl
                  clear kw149 uw149
                  refine sf_iinc (L' := [(9, .inl (.int v133)), (5, .inl (.long v20)), (8, .inl (.int v18)), (0, .inl (.ref 71)), (1, .inl (.int a_d))]) sf_c1 rfl rfl (by omega) (fun v152 ev152 => ?_)
                  refine sf_can (L' := [(0, .inl (.ref 71)), (1, .inl (.int a_d)), (5, .inl (.long v20)), (7, .inl (.int v152))]) rfl ?_
                  exact i_95 w149 v20 v152 Iw149 sw149 (by omega) (by omega) (by omega) (by omega) (by rw [c151, c148, c102]; first | exact f_2 | exact r2 (by omega)) (by omega)
            · refine sf_iconst sf_c0 (fun z153 ez153 => ?_)
              refine sf_istore (L' := [(5, .inl (.long v20)), (8, .inl (.int v18)), (0, .inl (.ref 71)), (1, .inl (.int a_d)), (7, .inl (.int x7))]) rfl ?_
              refine sf_aload rfl ?_
              refine sf_getr Iw100 rfl rfl ?_
              refine sf_iload rfl ?_
              refine sf_iald Iw100 rfl (by omega) (fun v154 lv154 uv154 ev154 => ?_)
              refine sf_f1_lt (fun h155 => ?_) (fun h155 => ?_)
              · refine sf_aload rfl ?_
                refine sf_getr Iw100 rfl rfl ?_
                refine sf_iload rfl ?_
                refine sf_iload rfl ?_
                refine sf_iast Iw100 sw100 rfl (by omega) (sf_bd _) rfl rfl (fun w156 Iw156 sw156 kw156 uw156 => ?_)
                have c157 := sf_mf kw156 (p := 71) (j := 0) rfl
                have c158 := sf_ma kw156 (p := 117) rfl
                clear kw156 uw156
                refine sf_iinc (L' := [(9, .inl (.int z153)), (5, .inl (.long v20)), (8, .inl (.int v18)), (0, .inl (.ref 71)), (1, .inl (.int a_d))]) sf_c1 rfl rfl (by omega) (fun v159 ev159 => ?_)
                refine sf_can (L' := [(0, .inl (.ref 71)), (1, .inl (.int a_d)), (5, .inl (.long v20)), (7, .inl (.int v159))]) rfl ?_
                exact i_95 w156 v20 v159 Iw156 sw156 (by omega) (by omega) (by omega) (by omega) (by rw [c158, c102]; first | exact f_2 | exact r2 (by omega)) (by omega)
              · refine sf_aload rfl ?_
                refine sf_getr Iw100 rfl rfl ?_
                refine sf_aload rfl ?_
                refine sf_getr Iw100 rfl rfl ?_
                refine sf_iload rfl ?_
                refine sf_iald Iw100 rfl (by omega) (fun v160 lv160 uv160 ev160 => ?_)
                refine sf_aload rfl ?_
                refine sf_getr Iw100 rfl rfl ?_
                refine sf_aload rfl ?_
                refine sf_getr Iw100 rfl rfl ?_
                refine sf_iload rfl ?_
                refine sf_iald Iw100 rfl (by omega) (fun v161 lv161 uv161 ev161 => ?_)
                refine sf_iald Iw100 rfl (by omega) (fun v162 lv162 uv162 ev162 => ?_)
                clear lv162 uv162
                clear ev162
                refine sf_aload rfl ?_
                refine sf_getr Iw100 rfl rfl ?_
                refine sf_iload rfl ?_
                refine sf_iald Iw100 rfl (by omega) (fun v163 lv163 uv163 ev163 => ?_)
                clear lv163 uv163
                clear ev163
                refine sf_i2 (fun v164 => ?_)
                refine sf_iload rfl ?_
                refine sf_i2 (fun v165 => ?_)
                refine sf_iast Iw100 sw100 rfl (by omega) (sf_bd _) rfl rfl (fun w166 Iw166 sw166 kw166 uw166 => ?_)
                have c167 := sf_mf kw166 (p := 71) (j := 0) rfl
                have c168 := sf_ma kw166 (p := 117) rfl
                clear kw166 uw166
                refine sf_aload rfl ?_
                refine sf_getr Iw166 rfl rfl ?_
                refine sf_iload rfl ?_
                refine sf_iload rfl ?_
                refine sf_iast Iw166 sw166 rfl (by omega) (sf_bd _) rfl rfl (fun w169 Iw169 sw169 kw169 uw169 => ?_)
                have c170 := sf_mf kw169 (p := 71) (j := 0) rfl
                have c171 := sf_ma kw169 (p := 117) rfl
                clear kw169 uw169
                refine sf_iinc (L' := [(9, .inl (.int z153)), (5, .inl (.long v20)), (8, .inl (.int v18)), (0, .inl (.ref 71)), (1, .inl (.int a_d))]) sf_c1 rfl rfl (by omega) (fun v172 ev172 => ?_)
                refine sf_can (L' := [(0, .inl (.ref 71)), (1, .inl (.int a_d)), (5, .inl (.long v20)), (7, .inl (.int v172))]) rfl ?_
                exact i_95 w169 v20 v172 Iw169 sw169 (by omega) (by omega) (by omega) (by omega) (by rw [c171, c168, c102]; first | exact f_2 | exact r2 (by omega)) (by omega)
      · intro w x5 x7 x9 I_w s_w l_x9 u_x9 f_0 f_1 hm
        show kh_M_amend_297 rt xt (ku_M_amend rt xt n) [(0, .inl (.ref 71)), (1, .inl (.int a_d)), (5, .inl (.long x5)), (7, .inl (.long x7)), (9, .inl (.int x9))] [] w 0 0
        generalize ku_M_amend rt xt n = K at i_95 i_297 ⊢
        refine sf_iload rfl ?_
        refine sf_iconst sf_c4 (fun z173 ez173 => ?_)
        refine sf_iload rfl ?_
        refine sf_imull (n := 4) (by omega) (by omega) (fun v174 ev174 => ?_)
        refine sf_aload rfl ?_
        refine sf_getr I_w rfl rfl ?_
        refine sf_iload rfl ?_
        refine sf_iald I_w rfl (by omega) (fun v175 lv175 uv175 ev175 => ?_)
        rw [sf_ma s_w (p := 104) rfl] at ev175
        refine sf_iadd (by omega) (fun v176 ev176 => ?_)
        refine sf_f2_ge (fun h177 => ?_) (fun h177 => ?_)
        · refine sf_lload rfl ?_
          refine sf_lload rfl ?_
          refine sf_l2 (fun v178 => ?_)
          refine sf_lreturn rfl rfl ?_
          exact hR _ _ I_w s_w 
        · refine sf_aload rfl ?_
          refine sf_getr I_w rfl rfl ?_
          refine sf_aload rfl ?_
          refine sf_getr I_w rfl rfl ?_
          refine sf_iload rfl ?_
          refine sf_iald I_w rfl (by omega) (fun v179 lv179 uv179 ev179 => ?_)
          clear ev179
          refine sf_aload rfl ?_
          refine sf_getr I_w rfl rfl ?_
          refine sf_iconst sf_c3 (fun z180 ez180 => ?_)
          refine sf_iload rfl ?_
          refine sf_imull (n := 3) (by omega) (by omega) (fun v181 ev181 => ?_)
          refine sf_iald I_w rfl (by omega) (fun v182 lv182 uv182 ev182 => ?_)
          refine sf_iast I_w s_w rfl (by omega) (sf_bd _) rfl rfl (fun w183 Iw183 sw183 kw183 uw183 => ?_)
          have c184 := sf_mf kw183 (p := 71) (j := 0) rfl
          have c185 := sf_ma kw183 (p := 117) rfl
          clear kw183 uw183
          refine sf_aload rfl ?_
          refine sf_getr Iw183 rfl rfl ?_
          refine sf_aload rfl ?_
          refine sf_getr Iw183 rfl rfl ?_
          refine sf_iload rfl ?_
          refine sf_iald Iw183 rfl (by omega) (fun v186 lv186 uv186 ev186 => ?_)
          clear ev186
          refine sf_aload rfl ?_
          refine sf_getr Iw183 rfl rfl ?_
          refine sf_iload rfl ?_
          refine sf_lald Iw183 rfl (by omega) (fun v187 ev187 => ?_)
          clear ev187
          refine sf_last Iw183 sw183 rfl (by omega) rfl rfl (fun w188 Iw188 sw188 kw188 uw188 => ?_)
          have c189 := sf_mf kw188 (p := 71) (j := 0) rfl
          have c190 := sf_ma kw188 (p := 117) rfl
          clear kw188 uw188
          refine sf_aload rfl ?_
          refine sf_aload rfl ?_
          refine sf_getr Iw188 rfl rfl ?_
          refine sf_iload rfl ?_
          refine sf_zald Iw188 rfl (by omega) (fun v191 lv191 uv191 ev191 => ?_)
          clear ev191
          refine sf_f1_eq (fun h192 => ?_) (fun h192 => ?_)
          · refine sf_aload rfl ?_
            refine sf_getl Iw188 rfl rfl (fun v193 => ?_)
            refine sf_aload rfl ?_
            refine sf_getr Iw188 rfl rfl ?_
            refine sf_iload rfl ?_
            refine sf_lald Iw188 rfl (by omega) (fun v194 ev194 => ?_)
            clear ev194
            refine sf_l2 (fun v195 => ?_)
            refine sf_putl Iw188 sw188 rfl rfl rfl rfl rfl (fun w196 Iw196 sw196 kw196 uw196 => ?_)
            have c197 := sf_mf kw196 (p := 71) (j := 0) rfl
            have c198 := sf_ma kw196 (p := 117) rfl
            clear kw196 uw196
            refine sf_iinc (L' := [(0, .inl (.ref 71)), (1, .inl (.int a_d)), (5, .inl (.long x5)), (7, .inl (.long x7))]) sf_c1 rfl rfl (by omega) (fun v199 ev199 => ?_)
            refine sf_can (L' := [(0, .inl (.ref 71)), (1, .inl (.int a_d)), (5, .inl (.long x5)), (7, .inl (.long x7)), (9, .inl (.int v199))]) rfl ?_
            exact i_297 w196 x5 x7 v199 Iw196 sw196 (by omega) (by omega) (by omega) (by omega) (by omega)
          · refine sf_aload rfl ?_
            refine sf_getl Iw188 rfl rfl (fun v200 => ?_)
            refine sf_putl Iw188 sw188 rfl rfl rfl rfl rfl (fun w201 Iw201 sw201 kw201 uw201 => ?_)
            have c202 := sf_mf kw201 (p := 71) (j := 0) rfl
            have c203 := sf_ma kw201 (p := 117) rfl
            clear kw201 uw201
            refine sf_iinc (L' := [(0, .inl (.ref 71)), (1, .inl (.int a_d)), (5, .inl (.long x5)), (7, .inl (.long x7))]) sf_c1 rfl rfl (by omega) (fun v204 ev204 => ?_)
            refine sf_can (L' := [(0, .inl (.ref 71)), (1, .inl (.int a_d)), (5, .inl (.long x5)), (7, .inl (.long x7)), (9, .inl (.int v204))]) rfl ?_
            exact i_297 w201 x5 x7 v204 Iw201 sw201 (by omega) (by omega) (by omega) (by omega) (by omega)
  have hl1 := hl 1000000000000
  obtain ⟨i_95, i_297⟩ := hl1
  clear hl
  refine sf_sp (L := [(0, .inl (.ref 71)), (1, .inl (.int a_d)), (2, .inl (.int a_l)), (3, .inl (.int a_field)), (4, .inl (.int a_v))]) rfl rfl ?_
  generalize ku_M_amend rt xt 1000000000000 = K at i_95 i_297 ⊢
  refine sf_aload rfl ?_
  refine sf_aload rfl ?_
  refine sf_iload rfl ?_
  refine sf_iload rfl ?_
  refine sf_call3 rfl rfl rfl ?_
  refine sf_rv hI0 rfl ?_
  refine sf_sp (L := [(0, .inl (.ref 71)), (1, .inl (.int a_d)), (2, .inl (.int a_l))]) rfl rfl ?_
  refine sf_aload rfl ?_
  refine sf_iload rfl ?_
  refine sf_call2 rfl rfl rfl ?_
  refine sf_rv hI0 rfl ?_
  refine sf_sp (L := [(0, .inl (.ref 71)), (1, .inl (.int a_d))]) rfl rfl ?_
  refine sf_iload rfl ?_
  refine sf_f1_lt (fun h205 => ?_) (fun h205 => ?_)
  · refine sf_iconst sf_c0 (fun z206 ez206 => ?_)
    refine sf_zreturn (by omega) rfl rfl ?_
    refine sf_f1_eq (fun h207 => ?_) (fun h207 => absurd h207 (by omega))
    refine sf_iconst sf_c0 (fun z208 ez208 => ?_)
    refine sf_zreturn (by omega) rfl rfl ?_
    refine sf_f1_eq (fun h209 => ?_) (fun h209 => absurd h209 (by omega))
    refine sf_iconst sf_c1 (fun z210 ez210 => ?_)
    refine sf_puti hI0 hs0 rfl rfl (sf_bd _) rfl rfl rfl (fun w211 Iw211 sw211 kw211 uw211 => ?_)
    have c212 := sf_ma kw211 (p := 117) rfl
    clear kw211
    refine sf_aload rfl ?_
    refine sf_geti Iw211 rfl rfl (fun v213 lv213 uv213 ev213 => ?_)
    rw [uw211] at ev213
    refine sf_f1_le (fun h214 => absurd h214 (by omega)) (fun h214 => ?_)
    refine sf_lconst (by decide : (0 : Int64).toInt = 0) (fun z215 ez215 => ?_)
    refine sf_lreturn rfl rfl ?_
    exact hR _ _ Iw211 sw211 
  · refine sf_iload rfl ?_
    refine sf_aload rfl ?_
    refine sf_geti hI0 rfl rfl (fun v216 lv216 uv216 ev216 => ?_)
    refine sf_f2_ge (fun h217 => ?_) (fun h217 => ?_)
    · refine sf_iconst sf_c0 (fun z218 ez218 => ?_)
      refine sf_zreturn (by omega) rfl rfl ?_
      refine sf_f1_eq (fun h219 => ?_) (fun h219 => absurd h219 (by omega))
      refine sf_iconst sf_c0 (fun z220 ez220 => ?_)
      refine sf_zreturn (by omega) rfl rfl ?_
      refine sf_f1_eq (fun h221 => ?_) (fun h221 => absurd h221 (by omega))
      refine sf_iconst sf_c1 (fun z222 ez222 => ?_)
      refine sf_puti hI0 hs0 rfl rfl (sf_bd _) rfl rfl rfl (fun w223 Iw223 sw223 kw223 uw223 => ?_)
      have c224 := sf_ma kw223 (p := 117) rfl
      clear kw223
      refine sf_aload rfl ?_
      refine sf_geti Iw223 rfl rfl (fun v225 lv225 uv225 ev225 => ?_)
      rw [uw223] at ev225
      refine sf_f1_le (fun h226 => absurd h226 (by omega)) (fun h226 => ?_)
      refine sf_lconst (by decide : (0 : Int64).toInt = 0) (fun z227 ez227 => ?_)
      refine sf_lreturn rfl rfl ?_
      exact hR _ _ Iw223 sw223 
    · refine sf_iconst sf_c1 (fun z228 ez228 => ?_)
      refine sf_zreturn (by omega) rfl rfl ?_
      refine sf_f1_eq (fun h229 => absurd h229 (by omega)) (fun h229 => ?_)
      refine sf_iload rfl ?_
      refine sf_f1_lt (fun h230 => ?_) (fun h230 => ?_)
      · refine sf_iconst sf_c0 (fun z231 ez231 => ?_)
        refine sf_zreturn (by omega) rfl rfl ?_
        refine sf_f1_eq (fun h232 => ?_) (fun h232 => absurd h232 (by omega))
        refine sf_iconst sf_c1 (fun z233 ez233 => ?_)
        refine sf_puti hI0 hs0 rfl rfl (sf_bd _) rfl rfl rfl (fun w234 Iw234 sw234 kw234 uw234 => ?_)
        have c235 := sf_ma kw234 (p := 117) rfl
        clear kw234
        refine sf_aload rfl ?_
        refine sf_geti Iw234 rfl rfl (fun v236 lv236 uv236 ev236 => ?_)
        rw [uw234] at ev236
        refine sf_f1_le (fun h237 => absurd h237 (by omega)) (fun h237 => ?_)
        refine sf_lconst (by decide : (0 : Int64).toInt = 0) (fun z238 ez238 => ?_)
        refine sf_lreturn rfl rfl ?_
        exact hR _ _ Iw234 sw234 
      · refine sf_iload rfl ?_
        refine sf_aload rfl ?_
        refine sf_getr hI0 rfl rfl ?_
        refine sf_iload rfl ?_
        refine sf_iald hI0 rfl (by omega) (fun v239 lv239 uv239 ev239 => ?_)
        refine sf_f2_ge (fun h240 => ?_) (fun h240 => ?_)
        · refine sf_iconst sf_c0 (fun z241 ez241 => ?_)
          refine sf_zreturn (by omega) rfl rfl ?_
          refine sf_f1_eq (fun h242 => ?_) (fun h242 => absurd h242 (by omega))
          refine sf_iconst sf_c1 (fun z243 ez243 => ?_)
          refine sf_puti hI0 hs0 rfl rfl (sf_bd _) rfl rfl rfl (fun w244 Iw244 sw244 kw244 uw244 => ?_)
          have c245 := sf_ma kw244 (p := 117) rfl
          clear kw244
          refine sf_aload rfl ?_
          refine sf_geti Iw244 rfl rfl (fun v246 lv246 uv246 ev246 => ?_)
          rw [uw244] at ev246
          refine sf_f1_le (fun h247 => absurd h247 (by omega)) (fun h247 => ?_)
          refine sf_lconst (by decide : (0 : Int64).toInt = 0) (fun z248 ez248 => ?_)
          refine sf_lreturn rfl rfl ?_
          exact hR _ _ Iw244 sw244 
        · refine sf_iconst sf_c1 (fun z249 ez249 => ?_)
          refine sf_zreturn (by omega) rfl rfl ?_
          refine sf_f1_eq (fun h250 => absurd h250 (by omega)) (fun h250 => ?_)
          refine sf_iload rfl ?_
          refine sf_iconst sf_c0 (fun z251 ez251 => ?_)
          refine sf_iconst sf_c2 (fun z252 ez252 => ?_)
          refine sf_call3 rfl rfl rfl ?_
          refine sf_sp (L := [(0, .inl (.int a_field)), (1, .inl (.int z251)), (2, .inl (.int z252))]) rfl rfl ?_
          refine sf_iload rfl ?_
          refine sf_iload rfl ?_
          refine sf_f2_lt (fun h253 => ?_) (fun h253 => ?_)
          · refine sf_iconst sf_c0 (fun z254 ez254 => ?_)
            refine sf_zreturn (by omega) rfl rfl ?_
            refine sf_f1_eq (fun h255 => ?_) (fun h255 => absurd h255 (by omega))
            refine sf_iconst sf_c1 (fun z256 ez256 => ?_)
            refine sf_puti hI0 hs0 rfl rfl (sf_bd _) rfl rfl rfl (fun w257 Iw257 sw257 kw257 uw257 => ?_)
            have c258 := sf_ma kw257 (p := 117) rfl
            clear kw257
            refine sf_aload rfl ?_
            refine sf_geti Iw257 rfl rfl (fun v259 lv259 uv259 ev259 => ?_)
            rw [uw257] at ev259
            refine sf_f1_le (fun h260 => absurd h260 (by omega)) (fun h260 => ?_)
            refine sf_lconst (by decide : (0 : Int64).toInt = 0) (fun z261 ez261 => ?_)
            refine sf_lreturn rfl rfl ?_
            exact hR _ _ Iw257 sw257 
          · refine sf_iload rfl ?_
            refine sf_iload rfl ?_
            refine sf_f2_gt (fun h262 => ?_) (fun h262 => ?_)
            · refine sf_iconst sf_c0 (fun z263 ez263 => ?_)
              refine sf_zreturn (by omega) rfl rfl ?_
              refine sf_f1_eq (fun h264 => ?_) (fun h264 => absurd h264 (by omega))
              refine sf_iconst sf_c1 (fun z265 ez265 => ?_)
              refine sf_puti hI0 hs0 rfl rfl (sf_bd _) rfl rfl rfl (fun w266 Iw266 sw266 kw266 uw266 => ?_)
              have c267 := sf_ma kw266 (p := 117) rfl
              clear kw266
              refine sf_aload rfl ?_
              refine sf_geti Iw266 rfl rfl (fun v268 lv268 uv268 ev268 => ?_)
              rw [uw266] at ev268
              refine sf_f1_le (fun h269 => absurd h269 (by omega)) (fun h269 => ?_)
              refine sf_lconst (by decide : (0 : Int64).toInt = 0) (fun z270 ez270 => ?_)
              refine sf_lreturn rfl rfl ?_
              exact hR _ _ Iw266 sw266 
            · refine sf_iconst sf_c1 (fun z271 ez271 => ?_)
              refine sf_zreturn (by omega) rfl rfl ?_
              refine sf_f1_eq (fun h272 => absurd h272 (by omega)) (fun h272 => ?_)
              refine sf_iload rfl ?_
              refine sf_iload rfl ?_
              refine sf_call2 rfl rfl rfl ?_
              refine sf_sp (L := [(0, .inl (.int a_field)), (1, .inl (.int a_v))]) rfl rfl ?_
              refine sf_iload rfl ?_
              refine sf_f1_eq (fun h273 => ?_) (fun h273 => ?_)
              · refine sf_iload rfl ?_
                refine sf_iconst sf_c1 (fun z274 ez274 => ?_)
                refine sf_f2_lt (fun h275 => ?_) (fun h275 => ?_)
                · refine sf_iconst sf_c0 (fun z276 ez276 => ?_)
                  refine sf_zreturn (by omega) rfl rfl ?_
                  refine sf_f1_eq (fun h277 => ?_) (fun h277 => absurd h277 (by omega))
                  refine sf_iconst sf_c1 (fun z278 ez278 => ?_)
                  refine sf_puti hI0 hs0 rfl rfl (sf_bd _) rfl rfl rfl (fun w279 Iw279 sw279 kw279 uw279 => ?_)
                  have c280 := sf_ma kw279 (p := 117) rfl
                  clear kw279
                  refine sf_aload rfl ?_
                  refine sf_geti Iw279 rfl rfl (fun v281 lv281 uv281 ev281 => ?_)
                  rw [uw279] at ev281
                  refine sf_f1_le (fun h282 => absurd h282 (by omega)) (fun h282 => ?_)
                  refine sf_lconst (by decide : (0 : Int64).toInt = 0) (fun z283 ez283 => ?_)
                  refine sf_lreturn rfl rfl ?_
                  exact hR _ _ Iw279 sw279 
                · refine sf_iload rfl ?_
                  refine sf_iconst sf_c1000 (fun z284 ez284 => ?_)
                  refine sf_f2_gt (fun h285 => ?_) (fun h285 => ?_)
                  · refine sf_iconst sf_c0 (fun z286 ez286 => ?_)
                    refine sf_zreturn (by omega) rfl rfl ?_
                    refine sf_f1_eq (fun h287 => ?_) (fun h287 => absurd h287 (by omega))
                    refine sf_iconst sf_c1 (fun z288 ez288 => ?_)
                    refine sf_puti hI0 hs0 rfl rfl (sf_bd _) rfl rfl rfl (fun w289 Iw289 sw289 kw289 uw289 => ?_)
                    have c290 := sf_ma kw289 (p := 117) rfl
                    clear kw289
                    refine sf_aload rfl ?_
                    refine sf_geti Iw289 rfl rfl (fun v291 lv291 uv291 ev291 => ?_)
                    rw [uw289] at ev291
                    refine sf_f1_le (fun h292 => absurd h292 (by omega)) (fun h292 => ?_)
                    refine sf_lconst (by decide : (0 : Int64).toInt = 0) (fun z293 ez293 => ?_)
                    refine sf_lreturn rfl rfl ?_
                    exact hR _ _ Iw289 sw289 
                  · refine sf_iconst sf_c1 (fun z294 ez294 => ?_)
                    refine sf_zreturn (by omega) rfl rfl ?_
                    refine sf_f1_eq (fun h295 => absurd h295 (by omega)) (fun h295 => ?_)
                    refine sf_aload rfl ?_
                    refine sf_iload rfl ?_
                    refine sf_call2 rfl rfl rfl ?_
                    refine sf_rv hI0 rfl ?_
                    refine sc_M_isWhole hI0 (by omega) (by omega) (fun v296 lv296 uv296 => ?_)
                    refine sf_f1_eq (fun h298 => ?_) (fun h298 => ?_)
                    · refine sf_iconst sf_c2 (fun z299 ez299 => ?_)
                      refine sf_puti hI0 hs0 rfl rfl (sf_bd _) rfl rfl rfl (fun w300 Iw300 sw300 kw300 uw300 => ?_)
                      have c301 := sf_ma kw300 (p := 117) rfl
                      clear kw300
                      refine sf_aload rfl ?_
                      refine sf_geti Iw300 rfl rfl (fun v302 lv302 uv302 ev302 => ?_)
                      rw [uw300] at ev302
                      refine sf_f1_le (fun h303 => absurd h303 (by omega)) (fun h303 => ?_)
                      refine sf_lconst (by decide : (0 : Int64).toInt = 0) (fun z304 ez304 => ?_)
                      refine sf_lreturn rfl rfl ?_
                      exact hR _ _ Iw300 sw300 
                    · refine sf_aload rfl ?_
                      refine sf_iload rfl ?_
                      refine sf_call2 rfl rfl rfl ?_
                      refine sf_rv hI0 rfl ?_
                      refine sc_M_find hI0 (by omega) (by omega) (fun v305 w306 Iw306 tw306 lv305 uv305 q307_0 => ?_)
                      have s308 := sf_mt hs0 tw306 rfl
                      have c309 := sf_mf tw306 (p := 71) (j := 0) rfl
                      have r2 := q307_0
                      rw [sf_ma s308 (p := 104) rfl] at r2
                      refine sf_f1_eq (fun h310 => ?_) (fun h310 => ?_)
                      · refine sf_iconst sf_c3 (fun z311 ez311 => ?_)
                        refine sf_puti Iw306 s308 rfl rfl (sf_bd _) rfl rfl rfl (fun w312 Iw312 sw312 kw312 uw312 => ?_)
                        have c313 := sf_ma kw312 (p := 117) rfl
                        clear kw312
                        refine sf_aload rfl ?_
                        refine sf_geti Iw312 rfl rfl (fun v314 lv314 uv314 ev314 => ?_)
                        rw [uw312] at ev314
                        refine sf_f1_le (fun h315 => absurd h315 (by omega)) (fun h315 => ?_)
                        refine sf_lconst (by decide : (0 : Int64).toInt = 0) (fun z316 ez316 => ?_)
                        refine sf_lreturn rfl rfl ?_
                        exact hR _ _ Iw312 sw312 
                      · refine sf_iconst sf_c0 (fun z317 ez317 => ?_)
                        refine sf_puti Iw306 s308 rfl rfl (sf_bd _) rfl rfl rfl (fun w318 Iw318 sw318 kw318 uw318 => ?_)
                        have c319 := sf_ma kw318 (p := 117) rfl
                        clear kw318
                        refine sf_aload rfl ?_
                        refine sf_geti Iw318 rfl rfl (fun v320 lv320 uv320 ev320 => ?_)
                        rw [uw318] at ev320
                        refine sf_f1_le (fun h321 => ?_) (fun h321 => absurd h321 (by omega))
                        refine sf_aload rfl ?_
                        refine sf_getr Iw318 rfl rfl ?_
                        refine sf_iconst sf_c3 (fun z322 ez322 => ?_)
                        refine sf_iconst sf_c4 (fun z323 ez323 => ?_)
                        refine sf_iload rfl ?_
                        refine sf_imull (n := 4) (by omega) (by omega) (fun v324 ev324 => ?_)
                        refine sf_iload rfl ?_
                        refine sf_iadd (by omega) (fun v325 ev325 => ?_)
                        refine sf_imull (n := 3) (by omega) (by omega) (fun v326 ev326 => ?_)
                        refine sf_iload rfl ?_
                        refine sf_iadd (by omega) (fun v327 ev327 => ?_)
                        refine sf_iload rfl ?_
                        refine sf_iastR Iw318 sw318 rfl (by omega) (sf_bd _) rfl (fun w9 h1 h2 => sf_R_fi Iw318 h1 h2 (by omega) (by omega)) (fun w328 Iw328 sw328 kw328 uw328 => ?_)
                        have c329 := sf_mf kw328 (p := 71) (j := 0) rfl
                        have c330 := sf_ma kw328 (p := 117) rfl
                        clear kw328 uw328
                        refine sf_lconst (by decide : (0 : Int64).toInt = 0) (fun z331 ez331 => ?_)
                        refine sf_lstore (L' := [(0, .inl (.ref 71)), (1, .inl (.int a_d)), (2, .inl (.int a_l)), (3, .inl (.int a_field)), (4, .inl (.int a_v))]) rfl ?_
                        refine sf_aload rfl ?_
                        refine sf_call1 rfl rfl rfl ?_
                        refine sf_rv Iw328 rfl ?_
                        refine sc_M_mean Iw328  (fun w332 Iw332 tw332 => ?_)
                        have s334 := sf_mt sw328 tw332 rfl
                        have c335 := sf_mf tw332 (p := 71) (j := 0) rfl
                        have c336 := sf_ma tw332 (p := 117) rfl
                        refine sf_iconst sf_c0 (fun z337 ez337 => ?_)
                        refine sf_istore (L' := [(5, .inl (.long z331)), (0, .inl (.ref 71)), (1, .inl (.int a_d)), (2, .inl (.int a_l)), (3, .inl (.int a_field)), (4, .inl (.int a_v))]) rfl ?_
                        refine sf_can (L' := [(0, .inl (.ref 71)), (1, .inl (.int a_d)), (5, .inl (.long z331)), (7, .inl (.int z337))]) rfl ?_
                        exact i_95 w332 z331 z337 Iw332 s334 (by omega) (by omega) (by omega) (by omega) (by rw [c336, c330, c319]; first | exact f_2 | exact r2 (by omega)) (by omega)
              · refine sf_iload rfl ?_
                refine sf_f1_lt (fun h338 => ?_) (fun h338 => ?_)
                · refine sf_iconst sf_c0 (fun z339 ez339 => ?_)
                  refine sf_zreturn (by omega) rfl rfl ?_
                  refine sf_f1_eq (fun h340 => ?_) (fun h340 => absurd h340 (by omega))
                  refine sf_iconst sf_c1 (fun z341 ez341 => ?_)
                  refine sf_puti hI0 hs0 rfl rfl (sf_bd _) rfl rfl rfl (fun w342 Iw342 sw342 kw342 uw342 => ?_)
                  have c343 := sf_ma kw342 (p := 117) rfl
                  clear kw342
                  refine sf_aload rfl ?_
                  refine sf_geti Iw342 rfl rfl (fun v344 lv344 uv344 ev344 => ?_)
                  rw [uw342] at ev344
                  refine sf_f1_le (fun h345 => absurd h345 (by omega)) (fun h345 => ?_)
                  refine sf_lconst (by decide : (0 : Int64).toInt = 0) (fun z346 ez346 => ?_)
                  refine sf_lreturn rfl rfl ?_
                  exact hR _ _ Iw342 sw342 
                · refine sf_iload rfl ?_
                  refine sf_iload rfl ?_
                  refine sf_iconst sf_c1 (fun z347 ez347 => ?_)
                  refine sf_f2_eq (fun h348 => ?_) (fun h348 => ?_)
                  · refine sf_iconst sf_cl1000000 (fun z349 ez349 => ?_)
                    refine sf_f2_gt (fun h350 => ?_) (fun h350 => ?_)
                    · refine sf_iconst sf_c0 (fun z351 ez351 => ?_)
                      refine sf_zreturn (by omega) rfl rfl ?_
                      refine sf_f1_eq (fun h352 => ?_) (fun h352 => absurd h352 (by omega))
                      refine sf_iconst sf_c1 (fun z353 ez353 => ?_)
                      refine sf_puti hI0 hs0 rfl rfl (sf_bd _) rfl rfl rfl (fun w354 Iw354 sw354 kw354 uw354 => ?_)
                      have c355 := sf_ma kw354 (p := 117) rfl
                      clear kw354
                      refine sf_aload rfl ?_
                      refine sf_geti Iw354 rfl rfl (fun v356 lv356 uv356 ev356 => ?_)
                      rw [uw354] at ev356
                      refine sf_f1_le (fun h357 => absurd h357 (by omega)) (fun h357 => ?_)
                      refine sf_lconst (by decide : (0 : Int64).toInt = 0) (fun z358 ez358 => ?_)
                      refine sf_lreturn rfl rfl ?_
                      exact hR _ _ Iw354 sw354 
                    · refine sf_iconst sf_c1 (fun z359 ez359 => ?_)
                      refine sf_zreturn (by omega) rfl rfl ?_
                      refine sf_f1_eq (fun h360 => absurd h360 (by omega)) (fun h360 => ?_)
                      refine sf_aload rfl ?_
                      refine sf_iload rfl ?_
                      refine sf_call2 rfl rfl rfl ?_
                      refine sf_rv hI0 rfl ?_
                      refine sc_M_isWhole hI0 (by omega) (by omega) (fun v361 lv361 uv361 => ?_)
                      refine sf_f1_eq (fun h363 => ?_) (fun h363 => ?_)
                      · refine sf_iconst sf_c2 (fun z364 ez364 => ?_)
                        refine sf_puti hI0 hs0 rfl rfl (sf_bd _) rfl rfl rfl (fun w365 Iw365 sw365 kw365 uw365 => ?_)
                        have c366 := sf_ma kw365 (p := 117) rfl
                        clear kw365
                        refine sf_aload rfl ?_
                        refine sf_geti Iw365 rfl rfl (fun v367 lv367 uv367 ev367 => ?_)
                        rw [uw365] at ev367
                        refine sf_f1_le (fun h368 => absurd h368 (by omega)) (fun h368 => ?_)
                        refine sf_lconst (by decide : (0 : Int64).toInt = 0) (fun z369 ez369 => ?_)
                        refine sf_lreturn rfl rfl ?_
                        exact hR _ _ Iw365 sw365 
                      · refine sf_aload rfl ?_
                        refine sf_iload rfl ?_
                        refine sf_call2 rfl rfl rfl ?_
                        refine sf_rv hI0 rfl ?_
                        refine sc_M_find hI0 (by omega) (by omega) (fun v370 w371 Iw371 tw371 lv370 uv370 q372_0 => ?_)
                        have s373 := sf_mt hs0 tw371 rfl
                        have c374 := sf_mf tw371 (p := 71) (j := 0) rfl
                        have r2 := q372_0
                        rw [sf_ma s373 (p := 104) rfl] at r2
                        refine sf_f1_eq (fun h375 => ?_) (fun h375 => ?_)
                        · refine sf_iconst sf_c3 (fun z376 ez376 => ?_)
                          refine sf_puti Iw371 s373 rfl rfl (sf_bd _) rfl rfl rfl (fun w377 Iw377 sw377 kw377 uw377 => ?_)
                          have c378 := sf_ma kw377 (p := 117) rfl
                          clear kw377
                          refine sf_aload rfl ?_
                          refine sf_geti Iw377 rfl rfl (fun v379 lv379 uv379 ev379 => ?_)
                          rw [uw377] at ev379
                          refine sf_f1_le (fun h380 => absurd h380 (by omega)) (fun h380 => ?_)
                          refine sf_lconst (by decide : (0 : Int64).toInt = 0) (fun z381 ez381 => ?_)
                          refine sf_lreturn rfl rfl ?_
                          exact hR _ _ Iw377 sw377 
                        · refine sf_iconst sf_c0 (fun z382 ez382 => ?_)
                          refine sf_puti Iw371 s373 rfl rfl (sf_bd _) rfl rfl rfl (fun w383 Iw383 sw383 kw383 uw383 => ?_)
                          have c384 := sf_ma kw383 (p := 117) rfl
                          clear kw383
                          refine sf_aload rfl ?_
                          refine sf_geti Iw383 rfl rfl (fun v385 lv385 uv385 ev385 => ?_)
                          rw [uw383] at ev385
                          refine sf_f1_le (fun h386 => ?_) (fun h386 => absurd h386 (by omega))
                          refine sf_aload rfl ?_
                          refine sf_getr Iw383 rfl rfl ?_
                          refine sf_iconst sf_c3 (fun z387 ez387 => ?_)
                          refine sf_iconst sf_c4 (fun z388 ez388 => ?_)
                          refine sf_iload rfl ?_
                          refine sf_imull (n := 4) (by omega) (by omega) (fun v389 ev389 => ?_)
                          refine sf_iload rfl ?_
                          refine sf_iadd (by omega) (fun v390 ev390 => ?_)
                          refine sf_imull (n := 3) (by omega) (by omega) (fun v391 ev391 => ?_)
                          refine sf_iload rfl ?_
                          refine sf_iadd (by omega) (fun v392 ev392 => ?_)
                          refine sf_iload rfl ?_
                          refine sf_iastR Iw383 sw383 rfl (by omega) (sf_bd _) rfl (fun w9 h1 h2 => sf_R_fi Iw383 h1 h2 (by omega) (by omega)) (fun w393 Iw393 sw393 kw393 uw393 => ?_)
                          have c394 := sf_mf kw393 (p := 71) (j := 0) rfl
                          have c395 := sf_ma kw393 (p := 117) rfl
                          clear kw393 uw393
                          refine sf_lconst (by decide : (0 : Int64).toInt = 0) (fun z396 ez396 => ?_)
                          refine sf_lstore (L' := [(0, .inl (.ref 71)), (1, .inl (.int a_d)), (2, .inl (.int a_l)), (3, .inl (.int a_field)), (4, .inl (.int a_v))]) rfl ?_
                          refine sf_aload rfl ?_
                          refine sf_call1 rfl rfl rfl ?_
                          refine sf_rv Iw393 rfl ?_
                          refine sc_M_mean Iw393  (fun w397 Iw397 tw397 => ?_)
                          have s399 := sf_mt sw393 tw397 rfl
                          have c400 := sf_mf tw397 (p := 71) (j := 0) rfl
                          have c401 := sf_ma tw397 (p := 117) rfl
                          refine sf_iconst sf_c0 (fun z402 ez402 => ?_)
                          refine sf_istore (L' := [(5, .inl (.long z396)), (0, .inl (.ref 71)), (1, .inl (.int a_d)), (2, .inl (.int a_l)), (3, .inl (.int a_field)), (4, .inl (.int a_v))]) rfl ?_
                          refine sf_can (L' := [(0, .inl (.ref 71)), (1, .inl (.int a_d)), (5, .inl (.long z396)), (7, .inl (.int z402))]) rfl ?_
                          exact i_95 w397 z396 z402 Iw397 s399 (by omega) (by omega) (by omega) (by omega) (by rw [c401, c395, c384]; first | exact f_2 | exact r2 (by omega)) (by omega)
                  · refine sf_iconst sf_cl100000000 (fun z403 ez403 => ?_)
                    refine sf_f2_gt (fun h404 => ?_) (fun h404 => ?_)
                    · refine sf_iconst sf_c0 (fun z405 ez405 => ?_)
                      refine sf_zreturn (by omega) rfl rfl ?_
                      refine sf_f1_eq (fun h406 => ?_) (fun h406 => absurd h406 (by omega))
                      refine sf_iconst sf_c1 (fun z407 ez407 => ?_)
                      refine sf_puti hI0 hs0 rfl rfl (sf_bd _) rfl rfl rfl (fun w408 Iw408 sw408 kw408 uw408 => ?_)
                      have c409 := sf_ma kw408 (p := 117) rfl
                      clear kw408
                      refine sf_aload rfl ?_
                      refine sf_geti Iw408 rfl rfl (fun v410 lv410 uv410 ev410 => ?_)
                      rw [uw408] at ev410
                      refine sf_f1_le (fun h411 => absurd h411 (by omega)) (fun h411 => ?_)
                      refine sf_lconst (by decide : (0 : Int64).toInt = 0) (fun z412 ez412 => ?_)
                      refine sf_lreturn rfl rfl ?_
                      exact hR _ _ Iw408 sw408 
                    · refine sf_iconst sf_c1 (fun z413 ez413 => ?_)
                      refine sf_zreturn (by omega) rfl rfl ?_
                      refine sf_f1_eq (fun h414 => absurd h414 (by omega)) (fun h414 => ?_)
                      refine sf_aload rfl ?_
                      refine sf_iload rfl ?_
                      refine sf_call2 rfl rfl rfl ?_
                      refine sf_rv hI0 rfl ?_
                      refine sc_M_isWhole hI0 (by omega) (by omega) (fun v415 lv415 uv415 => ?_)
                      refine sf_f1_eq (fun h417 => ?_) (fun h417 => ?_)
                      · refine sf_iconst sf_c2 (fun z418 ez418 => ?_)
                        refine sf_puti hI0 hs0 rfl rfl (sf_bd _) rfl rfl rfl (fun w419 Iw419 sw419 kw419 uw419 => ?_)
                        have c420 := sf_ma kw419 (p := 117) rfl
                        clear kw419
                        refine sf_aload rfl ?_
                        refine sf_geti Iw419 rfl rfl (fun v421 lv421 uv421 ev421 => ?_)
                        rw [uw419] at ev421
                        refine sf_f1_le (fun h422 => absurd h422 (by omega)) (fun h422 => ?_)
                        refine sf_lconst (by decide : (0 : Int64).toInt = 0) (fun z423 ez423 => ?_)
                        refine sf_lreturn rfl rfl ?_
                        exact hR _ _ Iw419 sw419 
                      · refine sf_aload rfl ?_
                        refine sf_iload rfl ?_
                        refine sf_call2 rfl rfl rfl ?_
                        refine sf_rv hI0 rfl ?_
                        refine sc_M_find hI0 (by omega) (by omega) (fun v424 w425 Iw425 tw425 lv424 uv424 q426_0 => ?_)
                        have s427 := sf_mt hs0 tw425 rfl
                        have c428 := sf_mf tw425 (p := 71) (j := 0) rfl
                        have r2 := q426_0
                        rw [sf_ma s427 (p := 104) rfl] at r2
                        refine sf_f1_eq (fun h429 => ?_) (fun h429 => ?_)
                        · refine sf_iconst sf_c3 (fun z430 ez430 => ?_)
                          refine sf_puti Iw425 s427 rfl rfl (sf_bd _) rfl rfl rfl (fun w431 Iw431 sw431 kw431 uw431 => ?_)
                          have c432 := sf_ma kw431 (p := 117) rfl
                          clear kw431
                          refine sf_aload rfl ?_
                          refine sf_geti Iw431 rfl rfl (fun v433 lv433 uv433 ev433 => ?_)
                          rw [uw431] at ev433
                          refine sf_f1_le (fun h434 => absurd h434 (by omega)) (fun h434 => ?_)
                          refine sf_lconst (by decide : (0 : Int64).toInt = 0) (fun z435 ez435 => ?_)
                          refine sf_lreturn rfl rfl ?_
                          exact hR _ _ Iw431 sw431 
                        · refine sf_iconst sf_c0 (fun z436 ez436 => ?_)
                          refine sf_puti Iw425 s427 rfl rfl (sf_bd _) rfl rfl rfl (fun w437 Iw437 sw437 kw437 uw437 => ?_)
                          have c438 := sf_ma kw437 (p := 117) rfl
                          clear kw437
                          refine sf_aload rfl ?_
                          refine sf_geti Iw437 rfl rfl (fun v439 lv439 uv439 ev439 => ?_)
                          rw [uw437] at ev439
                          refine sf_f1_le (fun h440 => ?_) (fun h440 => absurd h440 (by omega))
                          refine sf_aload rfl ?_
                          refine sf_getr Iw437 rfl rfl ?_
                          refine sf_iconst sf_c3 (fun z441 ez441 => ?_)
                          refine sf_iconst sf_c4 (fun z442 ez442 => ?_)
                          refine sf_iload rfl ?_
                          refine sf_imull (n := 4) (by omega) (by omega) (fun v443 ev443 => ?_)
                          refine sf_iload rfl ?_
                          refine sf_iadd (by omega) (fun v444 ev444 => ?_)
                          refine sf_imull (n := 3) (by omega) (by omega) (fun v445 ev445 => ?_)
                          refine sf_iload rfl ?_
                          refine sf_iadd (by omega) (fun v446 ev446 => ?_)
                          refine sf_iload rfl ?_
                          refine sf_iastR Iw437 sw437 rfl (by omega) (sf_bd _) rfl (fun w9 h1 h2 => sf_R_fi Iw437 h1 h2 (by omega) (by omega)) (fun w447 Iw447 sw447 kw447 uw447 => ?_)
                          have c448 := sf_mf kw447 (p := 71) (j := 0) rfl
                          have c449 := sf_ma kw447 (p := 117) rfl
                          clear kw447 uw447
                          refine sf_lconst (by decide : (0 : Int64).toInt = 0) (fun z450 ez450 => ?_)
                          refine sf_lstore (L' := [(0, .inl (.ref 71)), (1, .inl (.int a_d)), (2, .inl (.int a_l)), (3, .inl (.int a_field)), (4, .inl (.int a_v))]) rfl ?_
                          refine sf_aload rfl ?_
                          refine sf_call1 rfl rfl rfl ?_
                          refine sf_rv Iw447 rfl ?_
                          refine sc_M_mean Iw447  (fun w451 Iw451 tw451 => ?_)
                          have s453 := sf_mt sw447 tw451 rfl
                          have c454 := sf_mf tw451 (p := 71) (j := 0) rfl
                          have c455 := sf_ma tw451 (p := 117) rfl
                          refine sf_iconst sf_c0 (fun z456 ez456 => ?_)
                          refine sf_istore (L' := [(5, .inl (.long z450)), (0, .inl (.ref 71)), (1, .inl (.int a_d)), (2, .inl (.int a_l)), (3, .inl (.int a_field)), (4, .inl (.int a_v))]) rfl ?_
                          refine sf_can (L' := [(0, .inl (.ref 71)), (1, .inl (.int a_d)), (5, .inl (.long z450)), (7, .inl (.int z456))]) rfl ?_
                          exact i_95 w451 z450 z456 Iw451 s453 (by omega) (by omega) (by omega) (by omega) (by rw [c455, c449, c438]; first | exact f_2 | exact r2 (by omega)) (by omega)
