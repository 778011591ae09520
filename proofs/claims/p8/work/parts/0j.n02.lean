def sm_M_quota : List Nat := [71, 86, 87, 88, 89, 90, 91, 8100, 8118]
set_option maxRecDepth 100000 in
set_option maxHeartbeats 4000000 in
theorem sc_M_quota {w0 : wq_W} (hI0 : sf_I w0) {rt : Option wq_V → wq_W → Prop} {xt : Nat → wq_W → Prop} {a_heading : Int32} {a_land : Int32} {a_units : Int32} {a_a : Int32} {a_from : Int32} {a_to : Int32}  (hR : ∀ (r : Int32) (w : wq_W), sf_I w → sf_m sm_M_quota w0 w → 0 ≤ r.toInt → r.toInt ≤ 8 → ((((sf_f w 71 0).toInt = 0 ∧ (0 ≤ a_heading.toInt ∧ a_heading.toInt < (sf_f w0 71 1).toInt ∧ 0 ≤ a_land.toInt ∧ a_land.toInt ≤ 7 ∧ 1 ≤ a_units.toInt ∧ a_units.toInt ≤ 100000 ∧ 0 ≤ a_a.toInt ∧ a_a.toInt ≤ 10000 ∧ 0 ≤ a_from.toInt ∧ a_from.toInt ≤ a_to.toInt ∧ a_to.toInt ≤ 9999) ∧ ((sf_f w0 71 18).toInt < 8) ∧ (sf_f w 71 18).toInt = (sf_f w0 71 18).toInt + 1 ∧ r.toInt = (sf_f w0 71 18).toInt) ∨ ((sf_f w 71 0).toInt = 1 ∧ ¬ (0 ≤ a_heading.toInt ∧ a_heading.toInt < (sf_f w0 71 1).toInt ∧ 0 ≤ a_land.toInt ∧ a_land.toInt ≤ 7 ∧ 1 ≤ a_units.toInt ∧ a_units.toInt ≤ 100000 ∧ 0 ≤ a_a.toInt ∧ a_a.toInt ≤ 10000 ∧ 0 ≤ a_from.toInt ∧ a_from.toInt ≤ a_to.toInt ∧ a_to.toInt ≤ 9999) ∧ (sf_f w 71 18).toInt = (sf_f w0 71 18).toInt) ∨ ((sf_f w 71 0).toInt = 2 ∧ (0 ≤ a_heading.toInt ∧ a_heading.toInt < (sf_f w0 71 1).toInt ∧ 0 ≤ a_land.toInt ∧ a_land.toInt ≤ 7 ∧ 1 ≤ a_units.toInt ∧ a_units.toInt ≤ 100000 ∧ 0 ≤ a_a.toInt ∧ a_a.toInt ≤ 10000 ∧ 0 ≤ a_from.toInt ∧ a_from.toInt ≤ a_to.toInt ∧ a_to.toInt ≤ 9999) ∧ ¬ ((sf_f w0 71 18).toInt < 8) ∧ (sf_f w 71 18).toInt = (sf_f w0 71 18).toInt))) → rt (some (.inl (.int r))) w) : ks_M_quota [.inl (.ref 71), .inl (.int a_heading), .inl (.int a_land), .inl (.int a_units), .inl (.int a_a), .inl (.int a_from), .inl (.int a_to)] w0 rt xt := by
  have hs0 : sf_m sm_M_quota w0 w0 := sf_m0
  refine sf_sp (L := [(0, .inl (.ref 71)), (1, .inl (.int a_heading)), (2, .inl (.int a_land)), (3, .inl (.int a_units)), (4, .inl (.int a_a)), (5, .inl (.int a_from)), (6, .inl (.int a_to))]) rfl rfl ?_
  refine sf_aload rfl ?_
  refine sf_iload rfl ?_
  refine sf_call2 rfl rfl rfl ?_
  refine sf_rv hI0 rfl ?_
  refine sf_sp (L := [(0, .inl (.ref 71)), (1, .inl (.int a_heading))]) rfl rfl ?_
  refine sf_iload rfl ?_
  refine sf_f1_lt (fun h1 => ?_) (fun h1 => ?_)
  · refine sf_iconst sf_c0 (fun z2 ez2 => ?_)
    refine sf_zreturn (by omega) rfl rfl ?_
    refine sf_f1_eq (fun h3 => ?_) (fun h3 => absurd h3 (by omega))
    refine sf_iconst sf_c0 (fun z4 ez4 => ?_)
    refine sf_istore (L' := [(0, .inl (.ref 71)), (1, .inl (.int a_heading)), (2, .inl (.int a_land)), (3, .inl (.int a_units)), (4, .inl (.int a_a)), (5, .inl (.int a_from)), (6, .inl (.int a_to))]) rfl ?_
    refine sf_aload rfl ?_
    refine sf_iload rfl ?_
    refine sf_f1_eq (fun h5 => ?_) (fun h5 => absurd h5 (by omega))
    refine sf_iconst sf_c1 (fun z6 ez6 => ?_)
    refine sf_puti hI0 hs0 rfl rfl (sf_bd _) rfl rfl rfl (fun w7 Iw7 sw7 kw7 uw7 => ?_)
    have c8 := sf_mf kw7 (p := 71) (j := 18) rfl
    clear kw7
    refine sf_aload rfl ?_
    refine sf_geti Iw7 rfl rfl (fun v9 lv9 uv9 ev9 => ?_)
    rw [uw7] at ev9
    refine sf_f1_le (fun h10 => absurd h10 (by omega)) (fun h10 => ?_)
    refine sf_iconst sf_c0 (fun z11 ez11 => ?_)
    refine sf_ireturn rfl rfl ?_
    exact hR _ _ Iw7 sw7 (by omega) (by omega) (by rw [uw7]; rw [c8]; first | (refine Or.inl ⟨by omega, ?_⟩; omega) | (refine Or.inr (Or.inl ⟨by omega, ?_⟩); omega) | (refine Or.inr (Or.inr ⟨by omega, ?_⟩); omega))
  · refine sf_iload rfl ?_
    refine sf_aload rfl ?_
    refine sf_geti hI0 rfl rfl (fun v12 lv12 uv12 ev12 => ?_)
    refine sf_f2_ge (fun h13 => ?_) (fun h13 => ?_)
    · refine sf_iconst sf_c0 (fun z14 ez14 => ?_)
      refine sf_zreturn (by omega) rfl rfl ?_
      refine sf_f1_eq (fun h15 => ?_) (fun h15 => absurd h15 (by omega))
      refine sf_iconst sf_c0 (fun z16 ez16 => ?_)
      refine sf_istore (L' := [(0, .inl (.ref 71)), (1, .inl (.int a_heading)), (2, .inl (.int a_land)), (3, .inl (.int a_units)), (4, .inl (.int a_a)), (5, .inl (.int a_from)), (6, .inl (.int a_to))]) rfl ?_
      refine sf_aload rfl ?_
      refine sf_iload rfl ?_
      refine sf_f1_eq (fun h17 => ?_) (fun h17 => absurd h17 (by omega))
      refine sf_iconst sf_c1 (fun z18 ez18 => ?_)
      refine sf_puti hI0 hs0 rfl rfl (sf_bd _) rfl rfl rfl (fun w19 Iw19 sw19 kw19 uw19 => ?_)
      have c20 := sf_mf kw19 (p := 71) (j := 18) rfl
      clear kw19
      refine sf_aload rfl ?_
      refine sf_geti Iw19 rfl rfl (fun v21 lv21 uv21 ev21 => ?_)
      rw [uw19] at ev21
      refine sf_f1_le (fun h22 => absurd h22 (by omega)) (fun h22 => ?_)
      refine sf_iconst sf_c0 (fun z23 ez23 => ?_)
      refine sf_ireturn rfl rfl ?_
      exact hR _ _ Iw19 sw19 (by omega) (by omega) (by rw [uw19]; rw [c20]; first | (refine Or.inl ⟨by omega, ?_⟩; omega) | (refine Or.inr (Or.inl ⟨by omega, ?_⟩); omega) | (refine Or.inr (Or.inr ⟨by omega, ?_⟩); omega))
    · refine sf_iconst sf_c1 (fun z24 ez24 => ?_)
      refine sf_zreturn (by omega) rfl rfl ?_
      refine sf_f1_eq (fun h25 => absurd h25 (by omega)) (fun h25 => ?_)
      refine sf_iload rfl ?_
      refine sf_iconst sf_c0 (fun z26 ez26 => ?_)
      refine sf_iconst sf_c7 (fun z27 ez27 => ?_)
      refine sf_call3 rfl rfl rfl ?_
      refine sf_sp (L := [(0, .inl (.int a_land)), (1, .inl (.int z26)), (2, .inl (.int z27))]) rfl rfl ?_
      refine sf_iload rfl ?_
      refine sf_iload rfl ?_
      refine sf_f2_lt (fun h28 => ?_) (fun h28 => ?_)
      · refine sf_iconst sf_c0 (fun z29 ez29 => ?_)
        refine sf_zreturn (by omega) rfl rfl ?_
        refine sf_f1_eq (fun h30 => ?_) (fun h30 => absurd h30 (by omega))
        refine sf_iconst sf_c0 (fun z31 ez31 => ?_)
        refine sf_istore (L' := [(0, .inl (.ref 71)), (1, .inl (.int a_heading)), (2, .inl (.int a_land)), (3, .inl (.int a_units)), (4, .inl (.int a_a)), (5, .inl (.int a_from)), (6, .inl (.int a_to))]) rfl ?_
        refine sf_aload rfl ?_
        refine sf_iload rfl ?_
        refine sf_f1_eq (fun h32 => ?_) (fun h32 => absurd h32 (by omega))
        refine sf_iconst sf_c1 (fun z33 ez33 => ?_)
        refine sf_puti hI0 hs0 rfl rfl (sf_bd _) rfl rfl rfl (fun w34 Iw34 sw34 kw34 uw34 => ?_)
        have c35 := sf_mf kw34 (p := 71) (j := 18) rfl
        clear kw34
        refine sf_aload rfl ?_
        refine sf_geti Iw34 rfl rfl (fun v36 lv36 uv36 ev36 => ?_)
        rw [uw34] at ev36
        refine sf_f1_le (fun h37 => absurd h37 (by omega)) (fun h37 => ?_)
        refine sf_iconst sf_c0 (fun z38 ez38 => ?_)
        refine sf_ireturn rfl rfl ?_
        exact hR _ _ Iw34 sw34 (by omega) (by omega) (by rw [uw34]; rw [c35]; first | (refine Or.inl ⟨by omega, ?_⟩; omega) | (refine Or.inr (Or.inl ⟨by omega, ?_⟩); omega) | (refine Or.inr (Or.inr ⟨by omega, ?_⟩); omega))
      · refine sf_iload rfl ?_
        refine sf_iload rfl ?_
        refine sf_f2_gt (fun h39 => ?_) (fun h39 => ?_)
        · refine sf_iconst sf_c0 (fun z40 ez40 => ?_)
          refine sf_zreturn (by omega) rfl rfl ?_
          refine sf_f1_eq (fun h41 => ?_) (fun h41 => absurd h41 (by omega))
          refine sf_iconst sf_c0 (fun z42 ez42 => ?_)
          refine sf_istore (L' := [(0, .inl (.ref 71)), (1, .inl (.int a_heading)), (2, .inl (.int a_land)), (3, .inl (.int a_units)), (4, .inl (.int a_a)), (5, .inl (.int a_from)), (6, .inl (.int a_to))]) rfl ?_
          refine sf_aload rfl ?_
          refine sf_iload rfl ?_
          refine sf_f1_eq (fun h43 => ?_) (fun h43 => absurd h43 (by omega))
          refine sf_iconst sf_c1 (fun z44 ez44 => ?_)
          refine sf_puti hI0 hs0 rfl rfl (sf_bd _) rfl rfl rfl (fun w45 Iw45 sw45 kw45 uw45 => ?_)
          have c46 := sf_mf kw45 (p := 71) (j := 18) rfl
          clear kw45
          refine sf_aload rfl ?_
          refine sf_geti Iw45 rfl rfl (fun v47 lv47 uv47 ev47 => ?_)
          rw [uw45] at ev47
          refine sf_f1_le (fun h48 => absurd h48 (by omega)) (fun h48 => ?_)
          refine sf_iconst sf_c0 (fun z49 ez49 => ?_)
          refine sf_ireturn rfl rfl ?_
          exact hR _ _ Iw45 sw45 (by omega) (by omega) (by rw [uw45]; rw [c46]; first | (refine Or.inl ⟨by omega, ?_⟩; omega) | (refine Or.inr (Or.inl ⟨by omega, ?_⟩); omega) | (refine Or.inr (Or.inr ⟨by omega, ?_⟩); omega))
        · refine sf_iconst sf_c1 (fun z50 ez50 => ?_)
          refine sf_zreturn (by omega) rfl rfl ?_
          refine sf_f1_eq (fun h51 => absurd h51 (by omega)) (fun h51 => ?_)
          refine sf_iload rfl ?_
          refine sf_iconst sf_c1 (fun z52 ez52 => ?_)
          refine sf_iconst sf_cl100000 (fun z53 ez53 => ?_)
          refine sf_call3 rfl rfl rfl ?_
          refine sf_sp (L := [(0, .inl (.int a_units)), (1, .inl (.int z52)), (2, .inl (.int z53))]) rfl rfl ?_
          refine sf_iload rfl ?_
          refine sf_iload rfl ?_
          refine sf_f2_lt (fun h54 => ?_) (fun h54 => ?_)
          · refine sf_iconst sf_c0 (fun z55 ez55 => ?_)
            refine sf_zreturn (by omega) rfl rfl ?_
            refine sf_f1_eq (fun h56 => ?_) (fun h56 => absurd h56 (by omega))
            refine sf_iconst sf_c0 (fun z57 ez57 => ?_)
            refine sf_istore (L' := [(0, .inl (.ref 71)), (1, .inl (.int a_heading)), (2, .inl (.int a_land)), (3, .inl (.int a_units)), (4, .inl (.int a_a)), (5, .inl (.int a_from)), (6, .inl (.int a_to))]) rfl ?_
            refine sf_aload rfl ?_
            refine sf_iload rfl ?_
            refine sf_f1_eq (fun h58 => ?_) (fun h58 => absurd h58 (by omega))
            refine sf_iconst sf_c1 (fun z59 ez59 => ?_)
            refine sf_puti hI0 hs0 rfl rfl (sf_bd _) rfl rfl rfl (fun w60 Iw60 sw60 kw60 uw60 => ?_)
            have c61 := sf_mf kw60 (p := 71) (j := 18) rfl
            clear kw60
            refine sf_aload rfl ?_
            refine sf_geti Iw60 rfl rfl (fun v62 lv62 uv62 ev62 => ?_)
            rw [uw60] at ev62
            refine sf_f1_le (fun h63 => absurd h63 (by omega)) (fun h63 => ?_)
            refine sf_iconst sf_c0 (fun z64 ez64 => ?_)
            refine sf_ireturn rfl rfl ?_
            exact hR _ _ Iw60 sw60 (by omega) (by omega) (by rw [uw60]; rw [c61]; first | (refine Or.inl ⟨by omega, ?_⟩; omega) | (refine Or.inr (Or.inl ⟨by omega, ?_⟩); omega) | (refine Or.inr (Or.inr ⟨by omega, ?_⟩); omega))
          · refine sf_iload rfl ?_
            refine sf_iload rfl ?_
            refine sf_f2_gt (fun h65 => ?_) (fun h65 => ?_)
            · refine sf_iconst sf_c0 (fun z66 ez66 => ?_)
              refine sf_zreturn (by omega) rfl rfl ?_
              refine sf_f1_eq (fun h67 => ?_) (fun h67 => absurd h67 (by omega))
              refine sf_iconst sf_c0 (fun z68 ez68 => ?_)
              refine sf_istore (L' := [(0, .inl (.ref 71)), (1, .inl (.int a_heading)), (2, .inl (.int a_land)), (3, .inl (.int a_units)), (4, .inl (.int a_a)), (5, .inl (.int a_from)), (6, .inl (.int a_to))]) rfl ?_
              refine sf_aload rfl ?_
              refine sf_iload rfl ?_
              refine sf_f1_eq (fun h69 => ?_) (fun h69 => absurd h69 (by omega))
              refine sf_iconst sf_c1 (fun z70 ez70 => ?_)
              refine sf_puti hI0 hs0 rfl rfl (sf_bd _) rfl rfl rfl (fun w71 Iw71 sw71 kw71 uw71 => ?_)
              have c72 := sf_mf kw71 (p := 71) (j := 18) rfl
              clear kw71
              refine sf_aload rfl ?_
              refine sf_geti Iw71 rfl rfl (fun v73 lv73 uv73 ev73 => ?_)
              rw [uw71] at ev73
              refine sf_f1_le (fun h74 => absurd h74 (by omega)) (fun h74 => ?_)
              refine sf_iconst sf_c0 (fun z75 ez75 => ?_)
              refine sf_ireturn rfl rfl ?_
              exact hR _ _ Iw71 sw71 (by omega) (by omega) (by rw [uw71]; rw [c72]; first | (refine Or.inl ⟨by omega, ?_⟩; omega) | (refine Or.inr (Or.inl ⟨by omega, ?_⟩); omega) | (refine Or.inr (Or.inr ⟨by omega, ?_⟩); omega))
            · refine sf_iconst sf_c1 (fun z76 ez76 => ?_)
              refine sf_zreturn (by omega) rfl rfl ?_
              refine sf_f1_eq (fun h77 => absurd h77 (by omega)) (fun h77 => ?_)
              refine sf_iload rfl ?_
              refine sf_iconst sf_c0 (fun z78 ez78 => ?_)
              refine sf_iconst sf_c10000 (fun z79 ez79 => ?_)
              refine sf_call3 rfl rfl rfl ?_
              refine sf_sp (L := [(0, .inl (.int a_a)), (1, .inl (.int z78)), (2, .inl (.int z79))]) rfl rfl ?_
              refine sf_iload rfl ?_
              refine sf_iload rfl ?_
              refine sf_f2_lt (fun h80 => ?_) (fun h80 => ?_)
              · refine sf_iconst sf_c0 (fun z81 ez81 => ?_)
                refine sf_zreturn (by omega) rfl rfl ?_
                refine sf_f1_eq (fun h82 => ?_) (fun h82 => absurd h82 (by omega))
                refine sf_iconst sf_c0 (fun z83 ez83 => ?_)
                refine sf_istore (L' := [(0, .inl (.ref 71)), (1, .inl (.int a_heading)), (2, .inl (.int a_land)), (3, .inl (.int a_units)), (4, .inl (.int a_a)), (5, .inl (.int a_from)), (6, .inl (.int a_to))]) rfl ?_
                refine sf_aload rfl ?_
                refine sf_iload rfl ?_
                refine sf_f1_eq (fun h84 => ?_) (fun h84 => absurd h84 (by omega))
                refine sf_iconst sf_c1 (fun z85 ez85 => ?_)
                refine sf_puti hI0 hs0 rfl rfl (sf_bd _) rfl rfl rfl (fun w86 Iw86 sw86 kw86 uw86 => ?_)
                have c87 := sf_mf kw86 (p := 71) (j := 18) rfl
                clear kw86
                refine sf_aload rfl ?_
                refine sf_geti Iw86 rfl rfl (fun v88 lv88 uv88 ev88 => ?_)
                rw [uw86] at ev88
                refine sf_f1_le (fun h89 => absurd h89 (by omega)) (fun h89 => ?_)
                refine sf_iconst sf_c0 (fun z90 ez90 => ?_)
                refine sf_ireturn rfl rfl ?_
                exact hR _ _ Iw86 sw86 (by omega) (by omega) (by rw [uw86]; rw [c87]; first | (refine Or.inl ⟨by omega, ?_⟩; omega) | (refine Or.inr (Or.inl ⟨by omega, ?_⟩); omega) | (refine Or.inr (Or.inr ⟨by omega, ?_⟩); omega))
              · refine sf_iload rfl ?_
                refine sf_iload rfl ?_
                refine sf_f2_gt (fun h91 => ?_) (fun h91 => ?_)
                · refine sf_iconst sf_c0 (fun z92 ez92 => ?_)
                  refine sf_zreturn (by omega) rfl rfl ?_
                  refine sf_f1_eq (fun h93 => ?_) (fun h93 => absurd h93 (by omega))
                  refine sf_iconst sf_c0 (fun z94 ez94 => ?_)
                  refine sf_istore (L' := [(0, .inl (.ref 71)), (1, .inl (.int a_heading)), (2, .inl (.int a_land)), (3, .inl (.int a_units)), (4, .inl (.int a_a)), (5, .inl (.int a_from)), (6, .inl (.int a_to))]) rfl ?_
                  refine sf_aload rfl ?_
                  refine sf_iload rfl ?_
                  refine sf_f1_eq (fun h95 => ?_) (fun h95 => absurd h95 (by omega))
                  refine sf_iconst sf_c1 (fun z96 ez96 => ?_)
                  refine sf_puti hI0 hs0 rfl rfl (sf_bd _) rfl rfl rfl (fun w97 Iw97 sw97 kw97 uw97 => ?_)
                  have c98 := sf_mf kw97 (p := 71) (j := 18) rfl
                  clear kw97
                  refine sf_aload rfl ?_
                  refine sf_geti Iw97 rfl rfl (fun v99 lv99 uv99 ev99 => ?_)
                  rw [uw97] at ev99
                  refine sf_f1_le (fun h100 => absurd h100 (by omega)) (fun h100 => ?_)
                  refine sf_iconst sf_c0 (fun z101 ez101 => ?_)
                  refine sf_ireturn rfl rfl ?_
                  exact hR _ _ Iw97 sw97 (by omega) (by omega) (by rw [uw97]; rw [c98]; first | (refine Or.inl ⟨by omega, ?_⟩; omega) | (refine Or.inr (Or.inl ⟨by omega, ?_⟩); omega) | (refine Or.inr (Or.inr ⟨by omega, ?_⟩); omega))
                · refine sf_iconst sf_c1 (fun z102 ez102 => ?_)
                  refine sf_zreturn (by omega) rfl rfl ?_
                  refine sf_f1_eq (fun h103 => absurd h103 (by omega)) (fun h103 => ?_)
                  refine sf_iconst sf_c1 (fun z104 ez104 => ?_)
                  refine sf_istore (L' := [(0, .inl (.ref 71)), (1, .inl (.int a_heading)), (2, .inl (.int a_land)), (3, .inl (.int a_units)), (4, .inl (.int a_a)), (5, .inl (.int a_from)), (6, .inl (.int a_to))]) rfl ?_
                  refine sf_aload rfl ?_
                  refine sf_iload rfl ?_
                  refine sf_f1_eq (fun h105 => absurd h105 (by omega)) (fun h105 => ?_)
                  refine sf_iload rfl ?_
                  refine sf_f1_lt (fun h106 => ?_) (fun h106 => ?_)
                  · refine sf_iconst sf_c1 (fun z107 ez107 => ?_)
                    refine sf_puti hI0 hs0 rfl rfl (sf_bd _) rfl rfl rfl (fun w108 Iw108 sw108 kw108 uw108 => ?_)
                    have c109 := sf_mf kw108 (p := 71) (j := 18) rfl
                    clear kw108
                    refine sf_aload rfl ?_
                    refine sf_geti Iw108 rfl rfl (fun v110 lv110 uv110 ev110 => ?_)
                    rw [uw108] at ev110
                    refine sf_f1_le (fun h111 => absurd h111 (by omega)) (fun h111 => ?_)
                    refine sf_iconst sf_c0 (fun z112 ez112 => ?_)
                    refine sf_ireturn rfl rfl ?_
                    exact hR _ _ Iw108 sw108 (by omega) (by omega) (by rw [uw108]; rw [c109]; first | (refine Or.inl ⟨by omega, ?_⟩; omega) | (refine Or.inr (Or.inl ⟨by omega, ?_⟩); omega) | (refine Or.inr (Or.inr ⟨by omega, ?_⟩); omega))
                  · refine sf_iload rfl ?_
                    refine sf_iload rfl ?_
                    refine sf_f2_gt (fun h113 => ?_) (fun h113 => ?_)
                    · refine sf_iconst sf_c1 (fun z114 ez114 => ?_)
                      refine sf_puti hI0 hs0 rfl rfl (sf_bd _) rfl rfl rfl (fun w115 Iw115 sw115 kw115 uw115 => ?_)
                      have c116 := sf_mf kw115 (p := 71) (j := 18) rfl
                      clear kw115
                      refine sf_aload rfl ?_
                      refine sf_geti Iw115 rfl rfl (fun v117 lv117 uv117 ev117 => ?_)
                      rw [uw115] at ev117
                      refine sf_f1_le (fun h118 => absurd h118 (by omega)) (fun h118 => ?_)
                      refine sf_iconst sf_c0 (fun z119 ez119 => ?_)
                      refine sf_ireturn rfl rfl ?_
                      exact hR _ _ Iw115 sw115 (by omega) (by omega) (by rw [uw115]; rw [c116]; first | (refine Or.inl ⟨by omega, ?_⟩; omega) | (refine Or.inr (Or.inl ⟨by omega, ?_⟩); omega) | (refine Or.inr (Or.inr ⟨by omega, ?_⟩); omega))
                    · refine sf_iload rfl ?_
                      refine sf_iconst sf_c9999 (fun z120 ez120 => ?_)
                      refine sf_f2_le (fun h121 => ?_) (fun h121 => ?_)
                      · refine sf_aload rfl ?_
                        refine sf_geti hI0 rfl rfl (fun v122 lv122 uv122 ev122 => ?_)
                        refine sf_iconst sf_c8 (fun z123 ez123 => ?_)
                        refine sf_f2_eq (fun h124 => ?_) (fun h124 => ?_)
                        · refine sf_iconst sf_c2 (fun z125 ez125 => ?_)
                          refine sf_puti hI0 hs0 rfl rfl (sf_bd _) rfl rfl rfl (fun w126 Iw126 sw126 kw126 uw126 => ?_)
                          have c127 := sf_mf kw126 (p := 71) (j := 18) rfl
                          clear kw126
                          refine sf_aload rfl ?_
                          refine sf_geti Iw126 rfl rfl (fun v128 lv128 uv128 ev128 => ?_)
                          rw [uw126] at ev128
                          refine sf_f1_le (fun h129 => absurd h129 (by omega)) (fun h129 => ?_)
                          refine sf_iconst sf_c0 (fun z130 ez130 => ?_)
                          refine sf_ireturn rfl rfl ?_
                          exact hR _ _ Iw126 sw126 (by omega) (by omega) (by rw [uw126]; rw [c127]; first | (refine Or.inl ⟨by omega, ?_⟩; omega) | (refine Or.inr (Or.inl ⟨by omega, ?_⟩); omega) | (refine Or.inr (Or.inr ⟨by omega, ?_⟩); omega))
                        · refine sf_iconst sf_c0 (fun z131 ez131 => ?_)
                          refine sf_puti hI0 hs0 rfl rfl (sf_bd _) rfl rfl rfl (fun w132 Iw132 sw132 kw132 uw132 => ?_)
                          have c133 := sf_mf kw132 (p := 71) (j := 18) rfl
                          clear kw132
                          refine sf_aload rfl ?_
                          refine sf_geti Iw132 rfl rfl (fun v134 lv134 uv134 ev134 => ?_)
                          rw [uw132] at ev134
                          refine sf_f1_le (fun h135 => ?_) (fun h135 => absurd h135 (by omega))
                          refine sf_aload rfl ?_
                          refine sf_getr Iw132 rfl rfl ?_
                          refine sf_aload rfl ?_
                          refine sf_geti Iw132 rfl rfl (fun v136 lv136 uv136 ev136 => ?_)
                          rw [c133] at ev136
                          refine sf_iload rfl ?_
                          refine sf_iast Iw132 sw132 rfl (by omega) (sf_bd _) rfl rfl (fun w137 Iw137 sw137 kw137 uw137 => ?_)
                          have c138 := sf_mf kw137 (p := 71) (j := 0) rfl
                          have c139 := sf_mf kw137 (p := 71) (j := 18) rfl
                          clear kw137 uw137
                          refine sf_aload rfl ?_
                          refine sf_getr Iw137 rfl rfl ?_
                          refine sf_aload rfl ?_
                          refine sf_geti Iw137 rfl rfl (fun v140 lv140 uv140 ev140 => ?_)
                          rw [c139, c133] at ev140
                          refine sf_iload rfl ?_
                          refine sf_iast Iw137 sw137 rfl (by omega) (sf_bd _) rfl rfl (fun w141 Iw141 sw141 kw141 uw141 => ?_)
                          have c142 := sf_mf kw141 (p := 71) (j := 0) rfl
                          have c143 := sf_mf kw141 (p := 71) (j := 18) rfl
                          clear kw141 uw141
                          refine sf_aload rfl ?_
                          refine sf_getr Iw141 rfl rfl ?_
                          refine sf_aload rfl ?_
                          refine sf_geti Iw141 rfl rfl (fun v144 lv144 uv144 ev144 => ?_)
                          rw [c143, c139, c133] at ev144
                          refine sf_iload rfl ?_
                          refine sf_iast Iw141 sw141 rfl (by omega) (sf_bd _) rfl rfl (fun w145 Iw145 sw145 kw145 uw145 => ?_)
                          have c146 := sf_mf kw145 (p := 71) (j := 0) rfl
                          have c147 := sf_mf kw145 (p := 71) (j := 18) rfl
                          clear kw145 uw145
                          refine sf_aload rfl ?_
                          refine sf_getr Iw145 rfl rfl ?_
                          refine sf_aload rfl ?_
                          refine sf_geti Iw145 rfl rfl (fun v148 lv148 uv148 ev148 => ?_)
                          rw [c147, c143, c139, c133] at ev148
                          refine sf_iload rfl ?_
                          refine sf_iast Iw145 sw145 rfl (by omega) (sf_bd _) rfl rfl (fun w149 Iw149 sw149 kw149 uw149 => ?_)
                          have c150 := sf_mf kw149 (p := 71) (j := 0) rfl
                          have c151 := sf_mf kw149 (p := 71) (j := 18) rfl
                          clear kw149 uw149
                          refine sf_aload rfl ?_
                          refine sf_getr Iw149 rfl rfl ?_
                          refine sf_aload rfl ?_
                          refine sf_geti Iw149 rfl rfl (fun v152 lv152 uv152 ev152 => ?_)
                          rw [c151, c147, c143, c139, c133] at ev152
                          refine sf_iload rfl ?_
                          refine sf_iast Iw149 sw149 rfl (by omega) (sf_bd _) rfl rfl (fun w153 Iw153 sw153 kw153 uw153 => ?_)
                          have c154 := sf_mf kw153 (p := 71) (j := 0) rfl
                          have c155 := sf_mf kw153 (p := 71) (j := 18) rfl
                          clear kw153 uw153
                          refine sf_aload rfl ?_
                          refine sf_getr Iw153 rfl rfl ?_
                          refine sf_aload rfl ?_
                          refine sf_geti Iw153 rfl rfl (fun v156 lv156 uv156 ev156 => ?_)
                          rw [c155, c151, c147, c143, c139, c133] at ev156
                          refine sf_iload rfl ?_
                          refine sf_iast Iw153 sw153 rfl (by omega) (sf_bd _) rfl rfl (fun w157 Iw157 sw157 kw157 uw157 => ?_)
                          have c158 := sf_mf kw157 (p := 71) (j := 0) rfl
                          have c159 := sf_mf kw157 (p := 71) (j := 18) rfl
                          clear kw157 uw157
                          refine sf_aload rfl ?_
                          refine sf_dup rfl ?_
                          refine sf_geti Iw157 rfl rfl (fun v160 lv160 uv160 ev160 => ?_)
                          rw [c159, c155, c151, c147, c143, c139, c133] at ev160
                          refine sf_iconst sf_c1 (fun z161 ez161 => ?_)
                          refine sf_iadd (by omega) (fun v162 ev162 => ?_)
                          refine sf_puti Iw157 sw157 rfl rfl (by omega) rfl rfl rfl (fun w163 Iw163 sw163 kw163 uw163 => ?_)
                          have c164 := sf_mf kw163 (p := 71) (j := 0) rfl
                          clear kw163
                          refine sf_aload rfl ?_
                          refine sf_geti Iw163 rfl rfl (fun v165 lv165 uv165 ev165 => ?_)
                          rw [uw163] at ev165
                          refine sf_iconst sf_c1 (fun z166 ez166 => ?_)
                          refine sf_isub (by omega) (fun v167 ev167 => ?_)
                          refine sf_ireturn rfl rfl ?_
                          exact hR _ _ Iw163 sw163 (by omega) (by omega) (by rw [c164, c158, c154, c150, c146, c142, c138, uw132]; rw [uw163]; first | (refine Or.inl ⟨by omega, ?_⟩; omega) | (refine Or.inr (Or.inl ⟨by omega, ?_⟩); omega) | (refine Or.inr (Or.inr ⟨by omega, ?_⟩); omega))
                      · refine sf_iconst sf_c1 (fun z168 ez168 => ?_)
                        refine sf_puti hI0 hs0 rfl rfl (sf_bd _) rfl rfl rfl (fun w169 Iw169 sw169 kw169 uw169 => ?_)
                        have c170 := sf_mf kw169 (p := 71) (j := 18) rfl
                        clear kw169
                        refine sf_aload rfl ?_
                        refine sf_geti Iw169 rfl rfl (fun v171 lv171 uv171 ev171 => ?_)
                        rw [uw169] at ev171
                        refine sf_f1_le (fun h172 => absurd h172 (by omega)) (fun h172 => ?_)
                        refine sf_iconst sf_c0 (fun z173 ez173 => ?_)
                        refine sf_ireturn rfl rfl ?_
                        exact hR _ _ Iw169 sw169 (by omega) (by omega) (by rw [uw169]; rw [c170]; first | (refine Or.inl ⟨by omega, ?_⟩; omega) | (refine Or.inr (Or.inl ⟨by omega, ?_⟩); omega) | (refine Or.inr (Or.inr ⟨by omega, ?_⟩); omega))
def sm_M_quotaLeft : List Nat := [71, 8100]
set_option maxRecDepth 100000 in
set_option maxHeartbeats 4000000 in
theorem sc_M_quotaLeft {w0 : wq_W} (hI0 : sf_I w0) {rt : Option wq_V → wq_W → Prop} {xt : Nat → wq_W → Prop} {a_q : Int32}  (hR : ∀ (r : Int32) (w : wq_W), sf_I w → sf_m sm_M_quotaLeft w0 w → rt (some (.inl (.int r))) w) : ks_M_quotaLeft [.inl (.ref 71), .inl (.int a_q)] w0 rt xt := by
  have hs0 : sf_m sm_M_quotaLeft w0 w0 := sf_m0
  refine sf_sp (L := [(0, .inl (.ref 71)), (1, .inl (.int a_q))]) rfl rfl ?_
  refine sf_aload rfl ?_
  refine sf_iload rfl ?_
  refine sf_f1_lt (fun h1 => ?_) (fun h1 => ?_)
  · refine sf_iconst sf_c1 (fun z2 ez2 => ?_)
    refine sf_puti hI0 hs0 rfl rfl (sf_bd _) rfl rfl rfl (fun w3 Iw3 sw3 kw3 uw3 => ?_)
    clear kw3
    refine sf_aload rfl ?_
    refine sf_geti Iw3 rfl rfl (fun v4 lv4 uv4 ev4 => ?_)
    rw [uw3] at ev4
    refine sf_f1_le (fun h5 => absurd h5 (by omega)) (fun h5 => ?_)
    refine sf_iconst sf_c0 (fun z6 ez6 => ?_)
    refine sf_ireturn rfl rfl ?_
    exact hR _ _ Iw3 sw3 
  · refine sf_iload rfl ?_
    refine sf_aload rfl ?_
    refine sf_geti hI0 rfl rfl (fun v7 lv7 uv7 ev7 => ?_)
    refine sf_f2_ge (fun h8 => ?_) (fun h8 => ?_)
    · refine sf_iconst sf_c1 (fun z9 ez9 => ?_)
      refine sf_puti hI0 hs0 rfl rfl (sf_bd _) rfl rfl rfl (fun w10 Iw10 sw10 kw10 uw10 => ?_)
      clear kw10
      refine sf_aload rfl ?_
      refine sf_geti Iw10 rfl rfl (fun v11 lv11 uv11 ev11 => ?_)
      rw [uw10] at ev11
      refine sf_f1_le (fun h12 => absurd h12 (by omega)) (fun h12 => ?_)
      refine sf_iconst sf_c0 (fun z13 ez13 => ?_)
      refine sf_ireturn rfl rfl ?_
      exact hR _ _ Iw10 sw10 
    · refine sf_iconst sf_c0 (fun z14 ez14 => ?_)
      refine sf_puti hI0 hs0 rfl rfl (sf_bd _) rfl rfl rfl (fun w15 Iw15 sw15 kw15 uw15 => ?_)
      clear kw15
      refine sf_aload rfl ?_
      refine sf_geti Iw15 rfl rfl (fun v16 lv16 uv16 ev16 => ?_)
      rw [uw15] at ev16
      refine sf_f1_le (fun h17 => ?_) (fun h17 => absurd h17 (by omega))
      refine sf_aload rfl ?_
      refine sf_getr Iw15 rfl rfl ?_
      refine sf_iload rfl ?_
      refine sf_iald Iw15 rfl (by omega) (fun v18 lv18 uv18 ev18 => ?_)
      clear lv18 uv18
      clear ev18
      refine sf_ireturn rfl rfl ?_
      exact hR _ _ Iw15 sw15 
def sm_M_part : List Nat := [71, 94, 95, 96, 97, 100, 8100]
set_option maxRecDepth 100000 in
set_option maxHeartbeats 4000000 in
theorem sc_M_part {w0 : wq_W} (hI0 : sf_I w0) {rt : Option wq_V → wq_W → Prop} {xt : Nat → wq_W → Prop} {a_good : Int32} {a_of : Int32} {a_value : Int32} {a_land : Int32}  (hR : ∀ (r : Int32) (w : wq_W), sf_I w → sf_m sm_M_part w0 w → 0 ≤ r.toInt → r.toInt ≤ 5 → rt (some (.inl (.int r))) w) : ks_M_part [.inl (.ref 71), .inl (.int a_good), .inl (.int a_of), .inl (.int a_value), .inl (.int a_land)] w0 rt xt := by
  have hs0 : sf_m sm_M_part w0 w0 := sf_m0
  refine sf_sp (L := [(0, .inl (.ref 71)), (1, .inl (.int a_good)), (2, .inl (.int a_of)), (3, .inl (.int a_value)), (4, .inl (.int a_land))]) rfl rfl ?_
  refine sf_iload rfl ?_
  refine sf_iconst sf_c0 (fun z1 ez1 => ?_)
  refine sf_iconst sf_c15 (fun z2 ez2 => ?_)
  refine sf_call3 rfl rfl rfl ?_
  refine sf_sp (L := [(0, .inl (.int a_good)), (1, .inl (.int z1)), (2, .inl (.int z2))]) rfl rfl ?_
  refine sf_iload rfl ?_
  refine sf_iload rfl ?_
  refine sf_f2_lt (fun h3 => ?_) (fun h3 => ?_)
  · refine sf_iconst sf_c0 (fun z4 ez4 => ?_)
    refine sf_zreturn (by omega) rfl rfl ?_
    refine sf_f1_eq (fun h5 => ?_) (fun h5 => absurd h5 (by omega))
    refine sf_iconst sf_c0 (fun z6 ez6 => ?_)
    refine sf_istore (L' := [(0, .inl (.ref 71)), (1, .inl (.int a_good)), (2, .inl (.int a_of)), (3, .inl (.int a_value)), (4, .inl (.int a_land))]) rfl ?_
    refine sf_aload rfl ?_
    refine sf_iload rfl ?_
    refine sf_f1_eq (fun h7 => ?_) (fun h7 => absurd h7 (by omega))
    refine sf_iconst sf_c1 (fun z8 ez8 => ?_)
    refine sf_puti hI0 hs0 rfl rfl (sf_bd _) rfl rfl rfl (fun w9 Iw9 sw9 kw9 uw9 => ?_)
    have c10 := sf_ma kw9 (p := 94) rfl
    clear kw9
    refine sf_aload rfl ?_
    refine sf_geti Iw9 rfl rfl (fun v11 lv11 uv11 ev11 => ?_)
    rw [uw9] at ev11
    refine sf_f1_le (fun h12 => absurd h12 (by omega)) (fun h12 => ?_)
    refine sf_iconst sf_c0 (fun z13 ez13 => ?_)
    refine sf_ireturn rfl rfl ?_
    exact hR _ _ Iw9 sw9 (by omega) (by omega) 
  · refine sf_iload rfl ?_
    refine sf_iload rfl ?_
    refine sf_f2_gt (fun h14 => ?_) (fun h14 => ?_)
    · refine sf_iconst sf_c0 (fun z15 ez15 => ?_)
      refine sf_zreturn (by omega) rfl rfl ?_
      refine sf_f1_eq (fun h16 => ?_) (fun h16 => absurd h16 (by omega))
      refine sf_iconst sf_c0 (fun z17 ez17 => ?_)
      refine sf_istore (L' := [(0, .inl (.ref 71)), (1, .inl (.int a_good)), (2, .inl (.int a_of)), (3, .inl (.int a_value)), (4, .inl (.int a_land))]) rfl ?_
      refine sf_aload rfl ?_
      refine sf_iload rfl ?_
      refine sf_f1_eq (fun h18 => ?_) (fun h18 => absurd h18 (by omega))
      refine sf_iconst sf_c1 (fun z19 ez19 => ?_)
      refine sf_puti hI0 hs0 rfl rfl (sf_bd _) rfl rfl rfl (fun w20 Iw20 sw20 kw20 uw20 => ?_)
      have c21 := sf_ma kw20 (p := 94) rfl
      clear kw20
      refine sf_aload rfl ?_
      refine sf_geti Iw20 rfl rfl (fun v22 lv22 uv22 ev22 => ?_)
      rw [uw20] at ev22
      refine sf_f1_le (fun h23 => absurd h23 (by omega)) (fun h23 => ?_)
      refine sf_iconst sf_c0 (fun z24 ez24 => ?_)
      refine sf_ireturn rfl rfl ?_
      exact hR _ _ Iw20 sw20 (by omega) (by omega) 
    · refine sf_iconst sf_c1 (fun z25 ez25 => ?_)
      refine sf_zreturn (by omega) rfl rfl ?_
      refine sf_f1_eq (fun h26 => absurd h26 (by omega)) (fun h26 => ?_)
      refine sf_iload rfl ?_
      refine sf_iconst sf_c0 (fun z27 ez27 => ?_)
      refine sf_iconst sf_c15 (fun z28 ez28 => ?_)
      refine sf_call3 rfl rfl rfl ?_
      refine sf_sp (L := [(0, .inl (.int a_of)), (1, .inl (.int z27)), (2, .inl (.int z28))]) rfl rfl ?_
      refine sf_iload rfl ?_
      refine sf_iload rfl ?_
      refine sf_f2_lt (fun h29 => ?_) (fun h29 => ?_)
      · refine sf_iconst sf_c0 (fun z30 ez30 => ?_)
        refine sf_zreturn (by omega) rfl rfl ?_
        refine sf_f1_eq (fun h31 => ?_) (fun h31 => absurd h31 (by omega))
        refine sf_iconst sf_c0 (fun z32 ez32 => ?_)
        refine sf_istore (L' := [(0, .inl (.ref 71)), (1, .inl (.int a_good)), (2, .inl (.int a_of)), (3, .inl (.int a_value)), (4, .inl (.int a_land))]) rfl ?_
        refine sf_aload rfl ?_
        refine sf_iload rfl ?_
        refine sf_f1_eq (fun h33 => ?_) (fun h33 => absurd h33 (by omega))
        refine sf_iconst sf_c1 (fun z34 ez34 => ?_)
        refine sf_puti hI0 hs0 rfl rfl (sf_bd _) rfl rfl rfl (fun w35 Iw35 sw35 kw35 uw35 => ?_)
        have c36 := sf_ma kw35 (p := 94) rfl
        clear kw35
        refine sf_aload rfl ?_
        refine sf_geti Iw35 rfl rfl (fun v37 lv37 uv37 ev37 => ?_)
        rw [uw35] at ev37
        refine sf_f1_le (fun h38 => absurd h38 (by omega)) (fun h38 => ?_)
        refine sf_iconst sf_c0 (fun z39 ez39 => ?_)
        refine sf_ireturn rfl rfl ?_
        exact hR _ _ Iw35 sw35 (by omega) (by omega) 
      · refine sf_iload rfl ?_
        refine sf_iload rfl ?_
        refine sf_f2_gt (fun h40 => ?_) (fun h40 => ?_)
        · refine sf_iconst sf_c0 (fun z41 ez41 => ?_)
          refine sf_zreturn (by omega) rfl rfl ?_
          refine sf_f1_eq (fun h42 => ?_) (fun h42 => absurd h42 (by omega))
          refine sf_iconst sf_c0 (fun z43 ez43 => ?_)
          refine sf_istore (L' := [(0, .inl (.ref 71)), (1, .inl (.int a_good)), (2, .inl (.int a_of)), (3, .inl (.int a_value)), (4, .inl (.int a_land))]) rfl ?_
          refine sf_aload rfl ?_
          refine sf_iload rfl ?_
          refine sf_f1_eq (fun h44 => ?_) (fun h44 => absurd h44 (by omega))
          refine sf_iconst sf_c1 (fun z45 ez45 => ?_)
          refine sf_puti hI0 hs0 rfl rfl (sf_bd _) rfl rfl rfl (fun w46 Iw46 sw46 kw46 uw46 => ?_)
          have c47 := sf_ma kw46 (p := 94) rfl
          clear kw46
          refine sf_aload rfl ?_
          refine sf_geti Iw46 rfl rfl (fun v48 lv48 uv48 ev48 => ?_)
          rw [uw46] at ev48
          refine sf_f1_le (fun h49 => absurd h49 (by omega)) (fun h49 => ?_)
          refine sf_iconst sf_c0 (fun z50 ez50 => ?_)
          refine sf_ireturn rfl rfl ?_
          exact hR _ _ Iw46 sw46 (by omega) (by omega) 
        · refine sf_iconst sf_c1 (fun z51 ez51 => ?_)
          refine sf_zreturn (by omega) rfl rfl ?_
          refine sf_f1_eq (fun h52 => absurd h52 (by omega)) (fun h52 => ?_)
          refine sf_iload rfl ?_
          refine sf_iconst sf_c0 (fun z53 ez53 => ?_)
          refine sf_iconst sf_cl1000000 (fun z54 ez54 => ?_)
          refine sf_call3 rfl rfl rfl ?_
          refine sf_sp (L := [(0, .inl (.int a_value)), (1, .inl (.int z53)), (2, .inl (.int z54))]) rfl rfl ?_
          refine sf_iload rfl ?_
          refine sf_iload rfl ?_
          refine sf_f2_lt (fun h55 => ?_) (fun h55 => ?_)
          · refine sf_iconst sf_c0 (fun z56 ez56 => ?_)
            refine sf_zreturn (by omega) rfl rfl ?_
            refine sf_f1_eq (fun h57 => ?_) (fun h57 => absurd h57 (by omega))
            refine sf_iconst sf_c0 (fun z58 ez58 => ?_)
            refine sf_istore (L' := [(0, .inl (.ref 71)), (1, .inl (.int a_good)), (2, .inl (.int a_of)), (3, .inl (.int a_value)), (4, .inl (.int a_land))]) rfl ?_
            refine sf_aload rfl ?_
            refine sf_iload rfl ?_
            refine sf_f1_eq (fun h59 => ?_) (fun h59 => absurd h59 (by omega))
            refine sf_iconst sf_c1 (fun z60 ez60 => ?_)
            refine sf_puti hI0 hs0 rfl rfl (sf_bd _) rfl rfl rfl (fun w61 Iw61 sw61 kw61 uw61 => ?_)
            have c62 := sf_ma kw61 (p := 94) rfl
            clear kw61
            refine sf_aload rfl ?_
            refine sf_geti Iw61 rfl rfl (fun v63 lv63 uv63 ev63 => ?_)
            rw [uw61] at ev63
            refine sf_f1_le (fun h64 => absurd h64 (by omega)) (fun h64 => ?_)
            refine sf_iconst sf_c0 (fun z65 ez65 => ?_)
            refine sf_ireturn rfl rfl ?_
            exact hR _ _ Iw61 sw61 (by omega) (by omega) 
          · refine sf_iload rfl ?_
            refine sf_iload rfl ?_
            refine sf_f2_gt (fun h66 => ?_) (fun h66 => ?_)
            · refine sf_iconst sf_c0 (fun z67 ez67 => ?_)
              refine sf_zreturn (by omega) rfl rfl ?_
              refine sf_f1_eq (fun h68 => ?_) (fun h68 => absurd h68 (by omega))
              refine sf_iconst sf_c0 (fun z69 ez69 => ?_)
              refine sf_istore (L' := [(0, .inl (.ref 71)), (1, .inl (.int a_good)), (2, .inl (.int a_of)), (3, .inl (.int a_value)), (4, .inl (.int a_land))]) rfl ?_
              refine sf_aload rfl ?_
              refine sf_iload rfl ?_
              refine sf_f1_eq (fun h70 => ?_) (fun h70 => absurd h70 (by omega))
              refine sf_iconst sf_c1 (fun z71 ez71 => ?_)
              refine sf_puti hI0 hs0 rfl rfl (sf_bd _) rfl rfl rfl (fun w72 Iw72 sw72 kw72 uw72 => ?_)
              have c73 := sf_ma kw72 (p := 94) rfl
              clear kw72
              refine sf_aload rfl ?_
              refine sf_geti Iw72 rfl rfl (fun v74 lv74 uv74 ev74 => ?_)
              rw [uw72] at ev74
              refine sf_f1_le (fun h75 => absurd h75 (by omega)) (fun h75 => ?_)
              refine sf_iconst sf_c0 (fun z76 ez76 => ?_)
              refine sf_ireturn rfl rfl ?_
              exact hR _ _ Iw72 sw72 (by omega) (by omega) 
            · refine sf_iconst sf_c1 (fun z77 ez77 => ?_)
              refine sf_zreturn (by omega) rfl rfl ?_
              refine sf_f1_eq (fun h78 => absurd h78 (by omega)) (fun h78 => ?_)
              refine sf_iload rfl ?_
              refine sf_iconst sf_c0 (fun z79 ez79 => ?_)
              refine sf_iconst sf_c7 (fun z80 ez80 => ?_)
              refine sf_call3 rfl rfl rfl ?_
              refine sf_sp (L := [(0, .inl (.int a_land)), (1, .inl (.int z79)), (2, .inl (.int z80))]) rfl rfl ?_
              refine sf_iload rfl ?_
              refine sf_iload rfl ?_
              refine sf_f2_lt (fun h81 => ?_) (fun h81 => ?_)
              · refine sf_iconst sf_c0 (fun z82 ez82 => ?_)
                refine sf_zreturn (by omega) rfl rfl ?_
                refine sf_f1_eq (fun h83 => ?_) (fun h83 => absurd h83 (by omega))
                refine sf_iconst sf_c0 (fun z84 ez84 => ?_)
                refine sf_istore (L' := [(0, .inl (.ref 71)), (1, .inl (.int a_good)), (2, .inl (.int a_of)), (3, .inl (.int a_value)), (4, .inl (.int a_land))]) rfl ?_
                refine sf_aload rfl ?_
                refine sf_iload rfl ?_
                refine sf_f1_eq (fun h85 => ?_) (fun h85 => absurd h85 (by omega))
                refine sf_iconst sf_c1 (fun z86 ez86 => ?_)
                refine sf_puti hI0 hs0 rfl rfl (sf_bd _) rfl rfl rfl (fun w87 Iw87 sw87 kw87 uw87 => ?_)
                have c88 := sf_ma kw87 (p := 94) rfl
                clear kw87
                refine sf_aload rfl ?_
                refine sf_geti Iw87 rfl rfl (fun v89 lv89 uv89 ev89 => ?_)
                rw [uw87] at ev89
                refine sf_f1_le (fun h90 => absurd h90 (by omega)) (fun h90 => ?_)
                refine sf_iconst sf_c0 (fun z91 ez91 => ?_)
                refine sf_ireturn rfl rfl ?_
                exact hR _ _ Iw87 sw87 (by omega) (by omega) 
              · refine sf_iload rfl ?_
                refine sf_iload rfl ?_
                refine sf_f2_gt (fun h92 => ?_) (fun h92 => ?_)
                · refine sf_iconst sf_c0 (fun z93 ez93 => ?_)
                  refine sf_zreturn (by omega) rfl rfl ?_
                  refine sf_f1_eq (fun h94 => ?_) (fun h94 => absurd h94 (by omega))
                  refine sf_iconst sf_c0 (fun z95 ez95 => ?_)
                  refine sf_istore (L' := [(0, .inl (.ref 71)), (1, .inl (.int a_good)), (2, .inl (.int a_of)), (3, .inl (.int a_value)), (4, .inl (.int a_land))]) rfl ?_
                  refine sf_aload rfl ?_
                  refine sf_iload rfl ?_
                  refine sf_f1_eq (fun h96 => ?_) (fun h96 => absurd h96 (by omega))
                  refine sf_iconst sf_c1 (fun z97 ez97 => ?_)
                  refine sf_puti hI0 hs0 rfl rfl (sf_bd _) rfl rfl rfl (fun w98 Iw98 sw98 kw98 uw98 => ?_)
                  have c99 := sf_ma kw98 (p := 94) rfl
                  clear kw98
                  refine sf_aload rfl ?_
                  refine sf_geti Iw98 rfl rfl (fun v100 lv100 uv100 ev100 => ?_)
                  rw [uw98] at ev100
                  refine sf_f1_le (fun h101 => absurd h101 (by omega)) (fun h101 => ?_)
                  refine sf_iconst sf_c0 (fun z102 ez102 => ?_)
                  refine sf_ireturn rfl rfl ?_
                  exact hR _ _ Iw98 sw98 (by omega) (by omega) 
                · refine sf_iconst sf_c1 (fun z103 ez103 => ?_)
                  refine sf_zreturn (by omega) rfl rfl ?_
                  refine sf_f1_eq (fun h104 => absurd h104 (by omega)) (fun h104 => ?_)
                  refine sf_iconst sf_c1 (fun z105 ez105 => ?_)
                  refine sf_istore (L' := [(0, .inl (.ref 71)), (1, .inl (.int a_good)), (2, .inl (.int a_of)), (3, .inl (.int a_value)), (4, .inl (.int a_land))]) rfl ?_
                  refine sf_aload rfl ?_
                  refine sf_iload rfl ?_
                  refine sf_f1_eq (fun h106 => absurd h106 (by omega)) (fun h106 => ?_)
                  refine sf_aload rfl ?_
                  refine sf_iload rfl ?_
                  refine sf_iload rfl ?_
                  refine sf_call3 rfl rfl rfl ?_
                  refine sf_rv hI0 rfl ?_
                  refine sc_M_reaches hI0 (by omega) (by omega) (fun v107 w108 Iw108 tw108 lv107 uv107 => ?_)
                  have s110 := sf_mt hs0 tw108 rfl
                  have c111 := sf_mf tw108 (p := 71) (j := 0) rfl
                  have c112 := sf_ma tw108 (p := 94) rfl
                  refine sf_f1_eq (fun h113 => ?_) (fun h113 => ?_)
                  · refine sf_aload rfl ?_
                    refine sf_getr Iw108 rfl rfl ?_
                    refine sf_iload rfl ?_
                    refine sf_iald Iw108 rfl (by omega) (fun v114 lv114 uv114 ev114 => ?_)
                    rw [c112] at ev114
                    refine sf_iconst sf_c5 (fun z115 ez115 => ?_)
                    refine sf_f2_eq (fun h116 => ?_) (fun h116 => ?_)
                    · refine sf_iconst sf_c2 (fun z117 ez117 => ?_)
                      refine sf_puti Iw108 s110 rfl rfl (sf_bd _) rfl rfl rfl (fun w118 Iw118 sw118 kw118 uw118 => ?_)
                      have c119 := sf_ma kw118 (p := 94) rfl
                      clear kw118
                      refine sf_aload rfl ?_
                      refine sf_geti Iw118 rfl rfl (fun v120 lv120 uv120 ev120 => ?_)
                      rw [uw118] at ev120
                      refine sf_f1_le (fun h121 => absurd h121 (by omega)) (fun h121 => ?_)
                      refine sf_iconst sf_c0 (fun z122 ez122 => ?_)
                      refine sf_ireturn rfl rfl ?_
                      exact hR _ _ Iw118 sw118 (by omega) (by omega) 
                    · refine sf_iconst sf_c0 (fun z123 ez123 => ?_)
                      refine sf_puti Iw108 s110 rfl rfl (sf_bd _) rfl rfl rfl (fun w124 Iw124 sw124 kw124 uw124 => ?_)
                      have c125 := sf_ma kw124 (p := 94) rfl
                      clear kw124
                      refine sf_aload rfl ?_
                      refine sf_geti Iw124 rfl rfl (fun v126 lv126 uv126 ev126 => ?_)
                      rw [uw124] at ev126
                      refine sf_f1_le (fun h127 => ?_) (fun h127 => absurd h127 (by omega))
                      refine sf_iconst sf_c5 (fun z128 ez128 => ?_)
                      refine sf_iload rfl ?_
                      refine sf_imull (n := 5) (by omega) (by omega) (fun v129 ev129 => ?_)
                      refine sf_aload rfl ?_
                      refine sf_getr Iw124 rfl rfl ?_
                      refine sf_iload rfl ?_
                      refine sf_iald Iw124 rfl (by omega) (fun v130 lv130 uv130 ev130 => ?_)
                      rw [c125, c112] at ev130
                      refine sf_iadd (by omega) (fun v131 ev131 => ?_)
                      refine sf_istore (L' := [(5, .inl (.int z105)), (0, .inl (.ref 71)), (1, .inl (.int a_good)), (2, .inl (.int a_of)), (3, .inl (.int a_value)), (4, .inl (.int a_land))]) rfl ?_
                      refine sf_aload rfl ?_
                      refine sf_getr Iw124 rfl rfl ?_
                      refine sf_iload rfl ?_
                      refine sf_iload rfl ?_
                      refine sf_iast Iw124 sw124 rfl (by omega) (by omega) rfl rfl (fun w132 Iw132 sw132 kw132 uw132 => ?_)
                      have c133 := sf_mf kw132 (p := 71) (j := 0) rfl
                      have c134 := sf_ma kw132 (p := 94) rfl
                      clear kw132 uw132
                      refine sf_aload rfl ?_
                      refine sf_getr Iw132 rfl rfl ?_
                      refine sf_iload rfl ?_
                      refine sf_iload rfl ?_
                      refine sf_iast Iw132 sw132 rfl (by omega) (sf_bd _) rfl rfl (fun w135 Iw135 sw135 kw135 uw135 => ?_)
                      have c136 := sf_mf kw135 (p := 71) (j := 0) rfl
                      have c137 := sf_ma kw135 (p := 94) rfl
                      clear kw135 uw135
                      refine sf_aload rfl ?_
                      refine sf_getr Iw135 rfl rfl ?_
                      refine sf_iload rfl ?_
                      refine sf_iload rfl ?_
                      refine sf_iast Iw135 sw135 rfl (by omega) (sf_bd _) rfl rfl (fun w138 Iw138 sw138 kw138 uw138 => ?_)
                      have c139 := sf_mf kw138 (p := 71) (j := 0) rfl
                      have c140 := sf_ma kw138 (p := 94) rfl
                      clear kw138 uw138
                      refine sf_aload rfl ?_
                      refine sf_getr Iw138 rfl rfl ?_
                      refine sf_iload rfl ?_
                      refine sf_dup2 rfl rfl ?_
                      refine sf_iald Iw138 rfl (by omega) (fun v141 lv141 uv141 ev141 => ?_)
                      rw [c140, c137, c134, c125, c112] at ev141
                      refine sf_iconst sf_c1 (fun z142 ez142 => ?_)
                      refine sf_iadd (by omega) (fun v143 ev143 => ?_)
                      refine sf_iast Iw138 sw138 rfl (by omega) (by omega) rfl rfl (fun w144 Iw144 sw144 kw144 uw144 => ?_)
                      have c145 := sf_mf kw144 (p := 71) (j := 0) rfl
                      clear kw144 uw144
                      refine sf_aload rfl ?_
                      refine sf_getr Iw144 rfl rfl ?_
                      refine sf_iload rfl ?_
                      refine sf_iald Iw144 rfl (by omega) (fun v146 lv146 uv146 ev146 => ?_)
                      refine sf_ireturn rfl rfl ?_
                      exact hR _ _ Iw144 sw144 (by omega) (by omega) 
                  · refine sf_iconst sf_c1 (fun z147 ez147 => ?_)
                    refine sf_puti Iw108 s110 rfl rfl (sf_bd _) rfl rfl rfl (fun w148 Iw148 sw148 kw148 uw148 => ?_)
                    have c149 := sf_ma kw148 (p := 94) rfl
                    clear kw148
                    refine sf_aload rfl ?_
                    refine sf_geti Iw148 rfl rfl (fun v150 lv150 uv150 ev150 => ?_)
                    rw [uw148] at ev150
                    refine sf_f1_le (fun h151 => absurd h151 (by omega)) (fun h151 => ?_)
                    refine sf_iconst sf_c0 (fun z152 ez152 => ?_)
                    refine sf_ireturn rfl rfl ?_
                    exact hR _ _ Iw148 sw148 (by omega) (by omega) 
def sm_M_zone : List Nat := [71, 98, 8100]
set_option maxRecDepth 100000 in
set_option maxHeartbeats 4000000 in
theorem sc_M_zone {w0 : wq_W} (hI0 : sf_I w0) {rt : Option wq_V → wq_W → Prop} {xt : Nat → wq_W → Prop} {a_z : Int32} {a_lands : Int32}  (hR : ∀ (w : wq_W), sf_I w → sf_m sm_M_zone w0 w → ((((sf_f w 71 0).toInt = 0 ∧ 0 ≤ a_z.toInt ∧ a_z.toInt < 4 ∧ 0 ≤ a_lands.toInt ∧ a_lands.toInt < 256) ∨ ((sf_f w 71 0).toInt = 1 ∧ ¬ (0 ≤ a_z.toInt ∧ a_z.toInt < 4 ∧ 0 ≤ a_lands.toInt ∧ a_lands.toInt < 256)))) → rt none w) : ks_M_zone [.inl (.ref 71), .inl (.int a_z), .inl (.int a_lands)] w0 rt xt := by
  have hs0 : sf_m sm_M_zone w0 w0 := sf_m0
  refine sf_sp (L := [(0, .inl (.ref 71)), (1, .inl (.int a_z)), (2, .inl (.int a_lands))]) rfl rfl ?_
  refine sf_aload rfl ?_
  refine sf_iload rfl ?_
  refine sf_iconst sf_c0 (fun z1 ez1 => ?_)
  refine sf_iconst sf_c3 (fun z2 ez2 => ?_)
  refine sf_call3 rfl rfl rfl ?_
  refine sf_sp (L := [(0, .inl (.int a_z)), (1, .inl (.int z1)), (2, .inl (.int z2))]) rfl rfl ?_
  refine sf_iload rfl ?_
  refine sf_iload rfl ?_
  refine sf_f2_lt (fun h3 => ?_) (fun h3 => ?_)
  · refine sf_iconst sf_c0 (fun z4 ez4 => ?_)
    refine sf_zreturn (by omega) rfl rfl ?_
    refine sf_f1_eq (fun h5 => ?_) (fun h5 => absurd h5 (by omega))
    refine sf_iconst sf_c1 (fun z6 ez6 => ?_)
    refine sf_puti hI0 hs0 rfl rfl (sf_bd _) rfl rfl rfl (fun w7 Iw7 sw7 kw7 uw7 => ?_)
    clear kw7
    refine sf_aload rfl ?_
    refine sf_geti Iw7 rfl rfl (fun v8 lv8 uv8 ev8 => ?_)
    rw [uw7] at ev8
    refine sf_f1_eq (fun h9 => absurd h9 (by omega)) (fun h9 => ?_)
    refine sf_vreturn rfl rfl ?_
    exact hR _ Iw7 sw7 (by rw [uw7]; omega)
  · refine sf_iload rfl ?_
    refine sf_iload rfl ?_
    refine sf_f2_gt (fun h10 => ?_) (fun h10 => ?_)
    · refine sf_iconst sf_c0 (fun z11 ez11 => ?_)
      refine sf_zreturn (by omega) rfl rfl ?_
      refine sf_f1_eq (fun h12 => ?_) (fun h12 => absurd h12 (by omega))
      refine sf_iconst sf_c1 (fun z13 ez13 => ?_)
      refine sf_puti hI0 hs0 rfl rfl (sf_bd _) rfl rfl rfl (fun w14 Iw14 sw14 kw14 uw14 => ?_)
      clear kw14
      refine sf_aload rfl ?_
      refine sf_geti Iw14 rfl rfl (fun v15 lv15 uv15 ev15 => ?_)
      rw [uw14] at ev15
      refine sf_f1_eq (fun h16 => absurd h16 (by omega)) (fun h16 => ?_)
      refine sf_vreturn rfl rfl ?_
      exact hR _ Iw14 sw14 (by rw [uw14]; omega)
    · refine sf_iconst sf_c1 (fun z17 ez17 => ?_)
      refine sf_zreturn (by omega) rfl rfl ?_
      refine sf_f1_eq (fun h18 => absurd h18 (by omega)) (fun h18 => ?_)
      refine sf_iload rfl ?_
      refine sf_iconst sf_c0 (fun z19 ez19 => ?_)
      refine sf_iconst sf_c255 (fun z20 ez20 => ?_)
      refine sf_call3 rfl rfl rfl ?_
      refine sf_sp (L := [(0, .inl (.int a_lands)), (1, .inl (.int z19)), (2, .inl (.int z20))]) rfl rfl ?_
      refine sf_iload rfl ?_
      refine sf_iload rfl ?_
      refine sf_f2_lt (fun h21 => ?_) (fun h21 => ?_)
      · refine sf_iconst sf_c0 (fun z22 ez22 => ?_)
        refine sf_zreturn (by omega) rfl rfl ?_
        refine sf_f1_eq (fun h23 => ?_) (fun h23 => absurd h23 (by omega))
        refine sf_iconst sf_c1 (fun z24 ez24 => ?_)
        refine sf_puti hI0 hs0 rfl rfl (sf_bd _) rfl rfl rfl (fun w25 Iw25 sw25 kw25 uw25 => ?_)
        clear kw25
        refine sf_aload rfl ?_
        refine sf_geti Iw25 rfl rfl (fun v26 lv26 uv26 ev26 => ?_)
        rw [uw25] at ev26
        refine sf_f1_eq (fun h27 => absurd h27 (by omega)) (fun h27 => ?_)
        refine sf_vreturn rfl rfl ?_
        exact hR _ Iw25 sw25 (by rw [uw25]; omega)
      · refine sf_iload rfl ?_
        refine sf_iload rfl ?_
        refine sf_f2_gt (fun h28 => ?_) (fun h28 => ?_)
        · refine sf_iconst sf_c0 (fun z29 ez29 => ?_)
          refine sf_zreturn (by omega) rfl rfl ?_
          refine sf_f1_eq (fun h30 => ?_) (fun h30 => absurd h30 (by omega))
          refine sf_iconst sf_c1 (fun z31 ez31 => ?_)
          refine sf_puti hI0 hs0 rfl rfl (sf_bd _) rfl rfl rfl (fun w32 Iw32 sw32 kw32 uw32 => ?_)
          clear kw32
          refine sf_aload rfl ?_
          refine sf_geti Iw32 rfl rfl (fun v33 lv33 uv33 ev33 => ?_)
          rw [uw32] at ev33
          refine sf_f1_eq (fun h34 => absurd h34 (by omega)) (fun h34 => ?_)
          refine sf_vreturn rfl rfl ?_
          exact hR _ Iw32 sw32 (by rw [uw32]; omega)
        · refine sf_iconst sf_c1 (fun z35 ez35 => ?_)
          refine sf_zreturn (by omega) rfl rfl ?_
          refine sf_f1_eq (fun h36 => absurd h36 (by omega)) (fun h36 => ?_)
          refine sf_iconst sf_c0 (fun z37 ez37 => ?_)
          refine sf_puti hI0 hs0 rfl rfl (sf_bd _) rfl rfl rfl (fun w38 Iw38 sw38 kw38 uw38 => ?_)
          clear kw38
          refine sf_aload rfl ?_
          refine sf_geti Iw38 rfl rfl (fun v39 lv39 uv39 ev39 => ?_)
          rw [uw38] at ev39
          refine sf_f1_eq (fun h40 => ?_) (fun h40 => absurd h40 (by omega))
          refine sf_aload rfl ?_
          refine sf_getr Iw38 rfl rfl ?_
          refine sf_iload rfl ?_
          refine sf_iload rfl ?_
          refine sf_iast Iw38 sw38 rfl (by omega) (sf_bd _) rfl rfl (fun w41 Iw41 sw41 kw41 uw41 => ?_)
          have c42 := sf_mf kw41 (p := 71) (j := 0) rfl
          clear kw41 uw41
          refine sf_vreturn rfl rfl ?_
          exact hR _ Iw41 sw41 (by rw [c42, uw38]; omega)
def sm_M_rule : List Nat := [71, 73, 74, 8100]
set_option maxRecDepth 100000 in
set_option maxHeartbeats 4000000 in
theorem sc_M_rule {w0 : wq_W} (hI0 : sf_I w0) {rt : Option wq_V → wq_W → Prop} {xt : Nat → wq_W → Prop} {a_heading : Int32} {a_kind : Int32} {a_limit : Int32}  (hR : ∀ (w : wq_W), sf_I w → sf_m sm_M_rule w0 w → ((((sf_f w 71 0).toInt = 0 ∧ (0 ≤ a_heading.toInt ∧ a_heading.toInt < (sf_f w0 71 1).toInt ∧ 0 ≤ a_kind.toInt ∧ a_kind.toInt ≤ 1 ∧ 0 ≤ a_limit.toInt ∧ a_limit.toInt ≤ 1000)) ∨ ((sf_f w 71 0).toInt = 1 ∧ ¬ (0 ≤ a_heading.toInt ∧ a_heading.toInt < (sf_f w0 71 1).toInt ∧ 0 ≤ a_kind.toInt ∧ a_kind.toInt ≤ 1 ∧ 0 ≤ a_limit.toInt ∧ a_limit.toInt ≤ 1000)))) → rt none w) : ks_M_rule [.inl (.ref 71), .inl (.int a_heading), .inl (.int a_kind), .inl (.int a_limit)] w0 rt xt := by
  have hs0 : sf_m sm_M_rule w0 w0 := sf_m0
  refine sf_sp (L := [(0, .inl (.ref 71)), (1, .inl (.int a_heading)), (2, .inl (.int a_kind)), (3, .inl (.int a_limit))]) rfl rfl ?_
  refine sf_aload rfl ?_
  refine sf_aload rfl ?_
  refine sf_iload rfl ?_
  refine sf_call2 rfl rfl rfl ?_
  refine sf_rv hI0 rfl ?_
  refine sf_sp (L := [(0, .inl (.ref 71)), (1, .inl (.int a_heading))]) rfl rfl ?_
  refine sf_iload rfl ?_
  refine sf_f1_lt (fun h1 => ?_) (fun h1 => ?_)
  · refine sf_iconst sf_c0 (fun z2 ez2 => ?_)
    refine sf_zreturn (by omega) rfl rfl ?_
    refine sf_f1_eq (fun h3 => ?_) (fun h3 => absurd h3 (by omega))
    refine sf_iconst sf_c1 (fun z4 ez4 => ?_)
    refine sf_puti hI0 hs0 rfl rfl (sf_bd _) rfl rfl rfl (fun w5 Iw5 sw5 kw5 uw5 => ?_)
    clear kw5
    refine sf_aload rfl ?_
    refine sf_geti Iw5 rfl rfl (fun v6 lv6 uv6 ev6 => ?_)
    rw [uw5] at ev6
    refine sf_f1_eq (fun h7 => absurd h7 (by omega)) (fun h7 => ?_)
    refine sf_vreturn rfl rfl ?_
    exact hR _ Iw5 sw5 (by rw [uw5]; first | (refine Or.inl ⟨by omega, ?_⟩; omega) | (refine Or.inr ⟨by omega, ?_⟩; omega))
  · refine sf_iload rfl ?_
    refine sf_aload rfl ?_
    refine sf_geti hI0 rfl rfl (fun v8 lv8 uv8 ev8 => ?_)
    refine sf_f2_ge (fun h9 => ?_) (fun h9 => ?_)
    · refine sf_iconst sf_c0 (fun z10 ez10 => ?_)
      refine sf_zreturn (by omega) rfl rfl ?_
      refine sf_f1_eq (fun h11 => ?_) (fun h11 => absurd h11 (by omega))
      refine sf_iconst sf_c1 (fun z12 ez12 => ?_)
      refine sf_puti hI0 hs0 rfl rfl (sf_bd _) rfl rfl rfl (fun w13 Iw13 sw13 kw13 uw13 => ?_)
      clear kw13
      refine sf_aload rfl ?_
      refine sf_geti Iw13 rfl rfl (fun v14 lv14 uv14 ev14 => ?_)
      rw [uw13] at ev14
      refine sf_f1_eq (fun h15 => absurd h15 (by omega)) (fun h15 => ?_)
      refine sf_vreturn rfl rfl ?_
      exact hR _ Iw13 sw13 (by rw [uw13]; first | (refine Or.inl ⟨by omega, ?_⟩; omega) | (refine Or.inr ⟨by omega, ?_⟩; omega))
    · refine sf_iconst sf_c1 (fun z16 ez16 => ?_)
      refine sf_zreturn (by omega) rfl rfl ?_
      refine sf_f1_eq (fun h17 => absurd h17 (by omega)) (fun h17 => ?_)
      refine sf_iload rfl ?_
      refine sf_iconst sf_c0 (fun z18 ez18 => ?_)
      refine sf_iconst sf_c1 (fun z19 ez19 => ?_)
      refine sf_call3 rfl rfl rfl ?_
      refine sf_sp (L := [(0, .inl (.int a_kind)), (1, .inl (.int z18)), (2, .inl (.int z19))]) rfl rfl ?_
      refine sf_iload rfl ?_
      refine sf_iload rfl ?_
      refine sf_f2_lt (fun h20 => ?_) (fun h20 => ?_)
      · refine sf_iconst sf_c0 (fun z21 ez21 => ?_)
        refine sf_zreturn (by omega) rfl rfl ?_
        refine sf_f1_eq (fun h22 => ?_) (fun h22 => absurd h22 (by omega))
        refine sf_iconst sf_c1 (fun z23 ez23 => ?_)
        refine sf_puti hI0 hs0 rfl rfl (sf_bd _) rfl rfl rfl (fun w24 Iw24 sw24 kw24 uw24 => ?_)
        clear kw24
        refine sf_aload rfl ?_
        refine sf_geti Iw24 rfl rfl (fun v25 lv25 uv25 ev25 => ?_)
        rw [uw24] at ev25
        refine sf_f1_eq (fun h26 => absurd h26 (by omega)) (fun h26 => ?_)
        refine sf_vreturn rfl rfl ?_
        exact hR _ Iw24 sw24 (by rw [uw24]; first | (refine Or.inl ⟨by omega, ?_⟩; omega) | (refine Or.inr ⟨by omega, ?_⟩; omega))
      · refine sf_iload rfl ?_
        refine sf_iload rfl ?_
        refine sf_f2_gt (fun h27 => ?_) (fun h27 => ?_)
        · refine sf_iconst sf_c0 (fun z28 ez28 => ?_)
          refine sf_zreturn (by omega) rfl rfl ?_
          refine sf_f1_eq (fun h29 => ?_) (fun h29 => absurd h29 (by omega))
          refine sf_iconst sf_c1 (fun z30 ez30 => ?_)
          refine sf_puti hI0 hs0 rfl rfl (sf_bd _) rfl rfl rfl (fun w31 Iw31 sw31 kw31 uw31 => ?_)
          clear kw31
          refine sf_aload rfl ?_
          refine sf_geti Iw31 rfl rfl (fun v32 lv32 uv32 ev32 => ?_)
          rw [uw31] at ev32
          refine sf_f1_eq (fun h33 => absurd h33 (by omega)) (fun h33 => ?_)
          refine sf_vreturn rfl rfl ?_
          exact hR _ Iw31 sw31 (by rw [uw31]; first | (refine Or.inl ⟨by omega, ?_⟩; omega) | (refine Or.inr ⟨by omega, ?_⟩; omega))
        · refine sf_iconst sf_c1 (fun z34 ez34 => ?_)
          refine sf_zreturn (by omega) rfl rfl ?_
          refine sf_f1_eq (fun h35 => absurd h35 (by omega)) (fun h35 => ?_)
          refine sf_iload rfl ?_
          refine sf_iconst sf_c0 (fun z36 ez36 => ?_)
          refine sf_iconst sf_c1000 (fun z37 ez37 => ?_)
          refine sf_call3 rfl rfl rfl ?_
          refine sf_sp (L := [(0, .inl (.int a_limit)), (1, .inl (.int z36)), (2, .inl (.int z37))]) rfl rfl ?_
          refine sf_iload rfl ?_
          refine sf_iload rfl ?_
          refine sf_f2_lt (fun h38 => ?_) (fun h38 => ?_)
          · refine sf_iconst sf_c0 (fun z39 ez39 => ?_)
            refine sf_zreturn (by omega) rfl rfl ?_
            refine sf_f1_eq (fun h40 => ?_) (fun h40 => absurd h40 (by omega))
            refine sf_iconst sf_c1 (fun z41 ez41 => ?_)
            refine sf_puti hI0 hs0 rfl rfl (sf_bd _) rfl rfl rfl (fun w42 Iw42 sw42 kw42 uw42 => ?_)
            clear kw42
            refine sf_aload rfl ?_
            refine sf_geti Iw42 rfl rfl (fun v43 lv43 uv43 ev43 => ?_)
            rw [uw42] at ev43
            refine sf_f1_eq (fun h44 => absurd h44 (by omega)) (fun h44 => ?_)
            refine sf_vreturn rfl rfl ?_
            exact hR _ Iw42 sw42 (by rw [uw42]; first | (refine Or.inl ⟨by omega, ?_⟩; omega) | (refine Or.inr ⟨by omega, ?_⟩; omega))
          · refine sf_iload rfl ?_
            refine sf_iload rfl ?_
            refine sf_f2_gt (fun h45 => ?_) (fun h45 => ?_)
            · refine sf_iconst sf_c0 (fun z46 ez46 => ?_)
              refine sf_zreturn (by omega) rfl rfl ?_
              refine sf_f1_eq (fun h47 => ?_) (fun h47 => absurd h47 (by omega))
              refine sf_iconst sf_c1 (fun z48 ez48 => ?_)
              refine sf_puti hI0 hs0 rfl rfl (sf_bd _) rfl rfl rfl (fun w49 Iw49 sw49 kw49 uw49 => ?_)
              clear kw49
              refine sf_aload rfl ?_
              refine sf_geti Iw49 rfl rfl (fun v50 lv50 uv50 ev50 => ?_)
              rw [uw49] at ev50
              refine sf_f1_eq (fun h51 => absurd h51 (by omega)) (fun h51 => ?_)
              refine sf_vreturn rfl rfl ?_
              exact hR _ Iw49 sw49 (by rw [uw49]; first | (refine Or.inl ⟨by omega, ?_⟩; omega) | (refine Or.inr ⟨by omega, ?_⟩; omega))
            · refine sf_iconst sf_c1 (fun z52 ez52 => ?_)
              refine sf_zreturn (by omega) rfl rfl ?_
              refine sf_f1_eq (fun h53 => absurd h53 (by omega)) (fun h53 => ?_)
              refine sf_iconst sf_c0 (fun z54 ez54 => ?_)
              refine sf_puti hI0 hs0 rfl rfl (sf_bd _) rfl rfl rfl (fun w55 Iw55 sw55 kw55 uw55 => ?_)
              clear kw55
              refine sf_aload rfl ?_
              refine sf_geti Iw55 rfl rfl (fun v56 lv56 uv56 ev56 => ?_)
              rw [uw55] at ev56
              refine sf_f1_eq (fun h57 => ?_) (fun h57 => absurd h57 (by omega))
              refine sf_aload rfl ?_
              refine sf_getr Iw55 rfl rfl ?_
              refine sf_iload rfl ?_
              refine sf_iload rfl ?_
              refine sf_iastR Iw55 sw55 rfl (by omega) (sf_bd _) rfl (fun w9 h1 h2 => sf_R_rk Iw55 h1 h2 (Or.inl (by omega))) (fun w58 Iw58 sw58 kw58 uw58 => ?_)
              have c59 := sf_mf kw58 (p := 71) (j := 0) rfl
              clear kw58 uw58
              refine sf_aload rfl ?_
              refine sf_getr Iw58 rfl rfl ?_
              refine sf_iload rfl ?_
              refine sf_iload rfl ?_
              refine sf_iast Iw58 sw58 rfl (by omega) (sf_bd _) rfl rfl (fun w60 Iw60 sw60 kw60 uw60 => ?_)
              have c61 := sf_mf kw60 (p := 71) (j := 0) rfl
              clear kw60 uw60
              refine sf_vreturn rfl rfl ?_
              exact hR _ Iw60 sw60 (by rw [c61, c59, uw55]; first | (refine Or.inl ⟨by omega, ?_⟩; omega) | (refine Or.inr ⟨by omega, ?_⟩; omega))
def sm_M_madeIn : List Nat := [71, 99, 100, 101, 8100]
set_option maxRecDepth 100000 in
set_option maxHeartbeats 4000000 in
theorem sc_M_madeIn {w0 : wq_W} (hI0 : sf_I w0) {rt : Option wq_V → wq_W → Prop} {xt : Nat → wq_W → Prop} {a_good : Int32} {a_z : Int32}  (hR : ∀ (r : Int32) (w : wq_W), sf_I w → sf_m sm_M_madeIn w0 w → 0 ≤ r.toInt → r.toInt ≤ 1 → rt (some (.inl (.int r))) w) : ks_M_madeIn [.inl (.ref 71), .inl (.int a_good), .inl (.int a_z)] w0 rt xt := by
  have hs0 : sf_m sm_M_madeIn w0 w0 := sf_m0
  have hl : ∀ n : Nat, (∀ (w : wq_W) (x3 : Int32), (sf_I w) → (sf_m sm_M_madeIn w0 w) → (0 ≤ x3.toInt) → (x3.toInt ≤ 16) → (0 ≤ a_good.toInt ∧ a_good.toInt ≤ 15 ∧ 0 ≤ a_z.toInt ∧ a_z.toInt ≤ 3) → (10000 - x3.toInt < (n : Int)) → ku_M_madeIn rt xt n 39 [(0, .inl (.ref 71)), (1, .inl (.int a_good)), (2, .inl (.int a_z)), (3, .inl (.int x3))] [] w 0 0) ∧ (∀ (w : wq_W) (x3 : Int32), (sf_I w) → (sf_m sm_M_madeIn w0 w) → (0 ≤ x3.toInt) → (x3.toInt ≤ 16) → (0 ≤ a_good.toInt ∧ a_good.toInt ≤ 15 ∧ 0 ≤ a_z.toInt ∧ a_z.toInt ≤ 3) → ((16 - x3.toInt) * 400 + 399 < (n : Int)) → ku_M_madeIn rt xt n 71 [(0, .inl (.ref 71)), (1, .inl (.int a_good)), (2, .inl (.int a_z)), (3, .inl (.int x3))] [] w 0 0) ∧ (∀ (w : wq_W) (x3 : Int32) (x4 : Int32), (sf_I w) → (sf_m sm_M_madeIn w0 w) → (0 ≤ x3.toInt) → (x3.toInt ≤ 15) → (0 ≤ x4.toInt) → (x4.toInt ≤ 16) → (0 ≤ a_good.toInt ∧ a_good.toInt ≤ 15 ∧ 0 ≤ a_z.toInt ∧ a_z.toInt ≤ 3) → ((16 - x3.toInt) * 400 + (16 - x4.toInt) * 10 + 6 < (n : Int)) → ku_M_madeIn rt xt n 80 [(0, .inl (.ref 71)), (1, .inl (.int a_good)), (2, .inl (.int a_z)), (3, .inl (.int x3)), (4, .inl (.int x4))] [] w 0 0) ∧ (∀ (w : wq_W) (x3 : Int32) (x4 : Int32) (x5 : Int32) (x6 : Int32), (sf_I w) → (sf_m sm_M_madeIn w0 w) → (0 ≤ x3.toInt) → (x3.toInt ≤ 15) → (0 ≤ x4.toInt) → (x4.toInt ≤ 15) → (0 ≤ x5.toInt) → (x5.toInt ≤ 1) → (0 ≤ x6.toInt) → (x6.toInt ≤ 80) → (x6.toInt ≤ 5 * x4.toInt + 5) → (0 ≤ a_good.toInt ∧ a_good.toInt ≤ 15 ∧ 0 ≤ a_z.toInt ∧ a_z.toInt ≤ 3) → ((16 - x3.toInt) * 400 + (16 - x4.toInt) * 10 + 5 * x4.toInt + 5 - x6.toInt < (n : Int)) → ku_M_madeIn rt xt n 110 [(0, .inl (.ref 71)), (1, .inl (.int a_good)), (2, .inl (.int a_z)), (3, .inl (.int x3)), (4, .inl (.int x4)), (5, .inl (.int x5)), (6, .inl (.int x6))] [] w 0 0) := by
    intro n
    induction n with
    | zero =>
      refine ⟨?_, ?_, ?_, ?_⟩
      · intros; omega
      · intros; omega
      · intros; omega
      · intros; omega
    | succ n ih =>
      obtain ⟨i_39, i_71, i_80, i_110⟩ := ih
      refine ⟨?_, ?_, ?_, ?_⟩
      · intro w x3 I_w s_w l_x3 u_x3 f_0 hm
        show kh_M_madeIn_39 rt xt (ku_M_madeIn rt xt n) [(0, .inl (.ref 71)), (1, .inl (.int a_good)), (2, .inl (.int a_z)), (3, .inl (.int x3))] [] w 0 0
        generalize ku_M_madeIn rt xt n = K at i_39 i_71 i_80 i_110 ⊢
        refine sf_iload rfl ?_
        refine sf_iconst sf_c16 (fun z1 ez1 => ?_)
        refine sf_f2_ge (fun h2 => ?_) (fun h2 => ?_)
        · refine sf_iconst sf_c0 (fun z3 ez3 => ?_)
          refine sf_istore (L' := [(0, .inl (.ref 71)), (1, .inl (.int a_good)), (2, .inl (.int a_z))]) rfl ?_
          refine sf_can (L' := [(0, .inl (.ref 71)), (1, .inl (.int a_good)), (2, .inl (.int a_z)), (3, .inl (.int z3))]) rfl ?_
          exact i_71 w z3 I_w s_w (by omega) (by omega) (by omega) (by omega)
        · refine sf_aload rfl ?_
          refine sf_getr I_w rfl rfl ?_
          refine sf_iload rfl ?_
          refine sf_iconst sf_c0 (fun z4 ez4 => ?_)
          refine sf_zast I_w s_w rfl (by omega) (by omega) rfl rfl (fun w5 Iw5 sw5 kw5 uw5 => ?_)
          have c6 := sf_mf kw5 (p := 71) (j := 0) rfl
          clear kw5 uw5
          refine sf_aload rfl ?_
          refine sf_getr Iw5 rfl rfl ?_
          refine sf_iload rfl ?_
          refine sf_aload rfl ?_
          refine sf_iload rfl ?_
          refine sf_call2 rfl rfl rfl ?_
          refine sf_rv Iw5 rfl ?_
          refine sc_M_classOf Iw5 (by omega) (by omega) (fun v7 lv7 uv7 q8_0 => ?_)
          rw [sf_mf sw5 (p := 71) (j := 1) rfl] at q8_0
          refine sf_iast Iw5 sw5 rfl (by omega) (by omega) rfl rfl (fun w9 Iw9 sw9 kw9 uw9 => ?_)
          have c10 := sf_mf kw9 (p := 71) (j := 0) rfl
          clear kw9 uw9
          refine sf_iinc (L' := [(0, .inl (.ref 71)), (1, .inl (.int a_good)), (2, .inl (.int a_z))]) sf_c1 rfl rfl (by omega) (fun v11 ev11 => ?_)
          refine sf_can (L' := [(0, .inl (.ref 71)), (1, .inl (.int a_good)), (2, .inl (.int a_z)), (3, .inl (.int v11))]) rfl ?_
          exact i_39 w9 v11 Iw9 sw9 (by omega) (by omega) (by omega) (by omega)
      · intro w x3 I_w s_w l_x3 u_x3 f_0 hm
        show kh_M_madeIn_71 rt xt (ku_M_madeIn rt xt n) [(0, .inl (.ref 71)), (1, .inl (.int a_good)), (2, .inl (.int a_z)), (3, .inl (.int x3))] [] w 0 0
        generalize ku_M_madeIn rt xt n = K at i_39 i_71 i_80 i_110 ⊢
        refine sf_iload rfl ?_
        refine sf_iconst sf_c16 (fun z12 ez12 => ?_)
        refine sf_f2_ge (fun h13 => ?_) (fun h13 => ?_)
        · refine sf_aload rfl ?_
          refine sf_getr I_w rfl rfl ?_
          refine sf_iload rfl ?_
          refine sf_zald I_w rfl (by omega) (fun v14 lv14 uv14 ev14 => ?_)
          clear ev14
          refine sf_zreturn (by omega) rfl rfl ?_
          exact hR _ _ I_w s_w (by omega) (by omega) 
        · refine sf_iconst sf_c0 (fun z15 ez15 => ?_)
          refine sf_istore (L' := [(0, .inl (.ref 71)), (1, .inl (.int a_good)), (2, .inl (.int a_z)), (3, .inl (.int x3))]) rfl ?_
          refine sf_can (L' := [(0, .inl (.ref 71)), (1, .inl (.int a_good)), (2, .inl (.int a_z)), (3, .inl (.int x3)), (4, .inl (.int z15))]) rfl ?_
          exact i_80 w x3 z15 I_w s_w (by omega) (by omega) (by omega) (by omega) (by omega) (by omega)
      · intro w x3 x4 I_w s_w l_x3 u_x3 l_x4 u_x4 f_0 hm
        show kh_M_madeIn_80 rt xt (ku_M_madeIn rt xt n) [(0, .inl (.ref 71)), (1, .inl (.int a_good)), (2, .inl (.int a_z)), (3, .inl (.int x3)), (4, .inl (.int x4))] [] w 0 0
        generalize ku_M_madeIn rt xt n = K at i_39 i_71 i_80 i_110 ⊢
        refine sf_iload rfl ?_
        refine sf_iconst sf_c16 (fun z16 ez16 => ?_)
        refine sf_f2_ge (fun h17 => ?_) (fun h17 => ?_)
        · refine sf_iinc (L' := [(0, .inl (.ref 71)), (1, .inl (.int a_good)), (2, .inl (.int a_z)), (4, .inl (.int x4))]) sf_c1 rfl rfl (by omega) (fun v18 ev18 => ?_)
          refine sf_can (L' := [(0, .inl (.ref 71)), (1, .inl (.int a_good)), (2, .inl (.int a_z)), (3, .inl (.int v18))]) rfl ?_
          exact i_71 w v18 I_w s_w (by omega) (by omega) (by omega) (by omega)
        · refine sf_aload rfl ?_
          refine sf_getr I_w rfl rfl ?_
          refine sf_iload rfl ?_
          refine sf_zald I_w rfl (by omega) (fun v19 lv19 uv19 ev19 => ?_)
          clear ev19
          refine sf_f1_eq (fun h20 => ?_) (fun h20 => ?_)
          · refine sf_iconst sf_c1 (fun z21 ez21 => ?_)
            refine sf_istore (L' := [(0, .inl (.ref 71)), (1, .inl (.int a_good)), (2, .inl (.int a_z)), (3, .inl (.int x3)), (4, .inl (.int x4))]) rfl ?_
            refine sf_iconst sf_c5 (fun z22 ez22 => ?_)
            refine sf_iload rfl ?_
            refine sf_imull (n := 5) (by omega) (by omega) (fun v23 ev23 => ?_)
            refine sf_istore (L' := [(5, .inl (.int z21)), (0, .inl (.ref 71)), (1, .inl (.int a_good)), (2, .inl (.int a_z)), (3, .inl (.int x3)), (4, .inl (.int x4))]) rfl ?_
            refine sf_can (L' := [(0, .inl (.ref 71)), (1, .inl (.int a_good)), (2, .inl (.int a_z)), (3, .inl (.int x3)), (4, .inl (.int x4)), (5, .inl (.int z21)), (6, .inl (.int v23))]) rfl ?_
            exact i_110 w x3 x4 z21 v23 I_w s_w (by omega) (by omega) (by omega) (by omega) (by omega) (by omega) (by omega) (by omega) (by omega) (by omega) (by omega)
          · refine sf_iconst sf_c0 (fun z24 ez24 => ?_)
            refine sf_istore (L' := [(0, .inl (.ref 71)), (1, .inl (.int a_good)), (2, .inl (.int a_z)), (3, .inl (.int x3)), (4, .inl (.int x4))]) rfl ?_
            refine sf_iconst sf_c5 (fun z25 ez25 => ?_)
            refine sf_iload rfl ?_
            refine sf_imull (n := 5) (by omega) (by omega) (fun v26 ev26 => ?_)
            refine sf_istore (L' := [(5, .inl (.int z24)), (0, .inl (.ref 71)), (1, .inl (.int a_good)), (2, .inl (.int a_z)), (3, .inl (.int x3)), (4, .inl (.int x4))]) rfl ?_
            refine sf_can (L' := [(0, .inl (.ref 71)), (1, .inl (.int a_good)), (2, .inl (.int a_z)), (3, .inl (.int x3)), (4, .inl (.int x4)), (5, .inl (.int z24)), (6, .inl (.int v26))]) rfl ?_
            exact i_110 w x3 x4 z24 v26 I_w s_w (by omega) (by omega) (by omega) (by omega) (by omega) (by omega) (by omega) (by omega) (by omega) (by omega) (by omega)
      · intro w x3 x4 x5 x6 I_w s_w l_x3 u_x3 l_x4 u_x4 l_x5 u_x5 l_x6 u_x6 f_0 f_1 hm
        show kh_M_madeIn_110 rt xt (ku_M_madeIn rt xt n) [(0, .inl (.ref 71)), (1, .inl (.int a_good)), (2, .inl (.int a_z)), (3, .inl (.int x3)), (4, .inl (.int x4)), (5, .inl (.int x5)), (6, .inl (.int x6))] [] w 0 0
        generalize ku_M_madeIn rt xt n = K at i_39 i_71 i_80 i_110 ⊢
        refine sf_iload rfl ?_
        refine sf_iconst sf_c5 (fun z27 ez27 => ?_)
        refine sf_iload rfl ?_
        refine sf_imull (n := 5) (by omega) (by omega) (fun v28 ev28 => ?_)
        refine sf_aload rfl ?_
        refine sf_getr I_w rfl rfl ?_
        refine sf_iload rfl ?_
        refine sf_iald I_w rfl (by omega) (fun v29 lv29 uv29 ev29 => ?_)
        rw [sf_ma s_w (p := 94) rfl] at ev29
        refine sf_iadd (by omega) (fun v30 ev30 => ?_)
        refine sf_f2_ge (fun h31 => ?_) (fun h31 => ?_)
        · refine sf_iload rfl ?_
          refine sf_f1_eq (fun h32 => ?_) (fun h32 => ?_)
          · refine sf_iinc (L' := [(0, .inl (.ref 71)), (1, .inl (.int a_good)), (2, .inl (.int a_z)), (3, .inl (.int x3)), (5, .inl (.int x5)), (6, .inl (.int x6))]) sf_c1 rfl rfl (by omega) (fun v33 ev33 => ?_)
            refine sf_can (L' := [(0, .inl (.ref 71)), (1, .inl (.int a_good)), (2, .inl (.int a_z)), (3, .inl (.int x3)), (4, .inl (.int v33))]) rfl ?_
            exact i_80 w x3 v33 I_w s_w (by omega) (by omega) (by omega) (by omega) (by omega) (by omega)
          · refine sf_aload rfl ?_
            refine sf_getr I_w rfl rfl ?_
            refine sf_iload rfl ?_
            refine sf_aload rfl ?_
            refine sf_iload rfl ?_
            refine sf_aload rfl ?_
            refine sf_getr I_w rfl rfl ?_
            refine sf_iload rfl ?_
            refine sf_iald I_w rfl (by omega) (fun v34 lv34 uv34 ev34 => ?_)
            clear lv34 uv34
            clear ev34
            refine sf_call3 rfl rfl rfl ?_
            refine sf_rv I_w rfl ?_
            refine sc_M_isMade I_w (by omega) (by omega) (fun v35 lv35 uv35 => ?_)
            refine sf_zast I_w s_w rfl (by omega) (by omega) rfl rfl (fun w37 Iw37 sw37 kw37 uw37 => ?_)
            have c38 := sf_mf kw37 (p := 71) (j := 0) rfl
            clear kw37 uw37
            refine sf_aload rfl ?_
            refine sf_getr Iw37 rfl rfl ?_
            refine sf_iload rfl ?_
            refine sf_iconst sf_c1 (fun z39 ez39 => ?_)
            refine sf_zast Iw37 sw37 rfl (by omega) (by omega) rfl rfl (fun w40 Iw40 sw40 kw40 uw40 => ?_)
            have c41 := sf_mf kw40 (p := 71) (j := 0) rfl
            clear kw40 uw40
            refine sf_iinc (L' := [(0, .inl (.ref 71)), (1, .inl (.int a_good)), (2, .inl (.int a_z)), (3, .inl (.int x3)), (5, .inl (.int x5)), (6, .inl (.int x6))]) sf_c1 rfl rfl (by omega) (fun v42 ev42 => ?_)
            refine sf_can (L' := [(0, .inl (.ref 71)), (1, .inl (.int a_good)), (2, .inl (.int a_z)), (3, .inl (.int x3)), (4, .inl (.int v42))]) rfl ?_
            exact i_80 w40 x3 v42 Iw40 sw40 (by omega) (by omega) (by omega) (by omega) (by omega) (by omega)
        · refine sf_iload rfl ?_
          refine sf_f1_eq (fun h43 => ?_) (fun h43 => ?_)
          · refine sf_iconst sf_c0 (fun z44 ez44 => ?_)
            refine sf_istore (L' := [(0, .inl (.ref 71)), (1, .inl (.int a_good)), (2, .inl (.int a_z)), (3, .inl (.int x3)), (4, .inl (.int x4)), (6, .inl (.int x6))]) rfl ?_
            refine sf_iinc (L' := [(5, .inl (.int z44)), (0, .inl (.ref 71)), (1, .inl (.int a_good)), (2, .inl (.int a_z)), (3, .inl (.int x3)), (4, .inl (.int x4))]) sf_c1 rfl rfl (by omega) (fun v45 ev45 => ?_)
            refine sf_can (L' := [(0, .inl (.ref 71)), (1, .inl (.int a_good)), (2, .inl (.int a_z)), (3, .inl (.int x3)), (4, .inl (.int x4)), (5, .inl (.int z44)), (6, .inl (.int v45))]) rfl ?_
            exact i_110 w x3 x4 z44 v45 I_w s_w (by omega) (by omega) (by omega) (by omega) (by omega) (by omega) (by omega) (by omega) (by omega) (by omega) (by omega)
          · refine sf_aload rfl ?_
            refine sf_getr I_w rfl rfl ?_
            refine sf_aload rfl ?_
            refine sf_getr I_w rfl rfl ?_
            refine sf_iload rfl ?_
            refine sf_iald I_w rfl (by omega) (fun v46 lv46 uv46 ev46 => ?_)
            clear ev46
            refine sf_zald I_w rfl (by omega) (fun v47 lv47 uv47 ev47 => ?_)
            clear ev47
            refine sf_f1_eq (fun h48 => ?_) (fun h48 => ?_)
            · refine sf_iconst sf_c0 (fun z49 ez49 => ?_)
              refine sf_istore (L' := [(0, .inl (.ref 71)), (1, .inl (.int a_good)), (2, .inl (.int a_z)), (3, .inl (.int x3)), (4, .inl (.int x4)), (6, .inl (.int x6))]) rfl ?_
              refine sf_iinc (L' := [(5, .inl (.int z49)), (0, .inl (.ref 71)), (1, .inl (.int a_good)), (2, .inl (.int a_z)), (3, .inl (.int x3)), (4, .inl (.int x4))]) sf_c1 rfl rfl (by omega) (fun v50 ev50 => ?_)
              refine sf_can (L' := [(0, .inl (.ref 71)), (1, .inl (.int a_good)), (2, .inl (.int a_z)), (3, .inl (.int x3)), (4, .inl (.int x4)), (5, .inl (.int z49)), (6, .inl (.int v50))]) rfl ?_
              exact i_110 w x3 x4 z49 v50 I_w s_w (by omega) (by omega) (by omega) (by omega) (by omega) (by omega) (by omega) (by omega) (by omega) (by omega) (by omega)
            · refine sf_iconst sf_c1 (fun z51 ez51 => ?_)
              refine sf_istore (L' := [(0, .inl (.ref 71)), (1, .inl (.int a_good)), (2, .inl (.int a_z)), (3, .inl (.int x3)), (4, .inl (.int x4)), (6, .inl (.int x6))]) rfl ?_
              refine sf_iinc (L' := [(5, .inl (.int z51)), (0, .inl (.ref 71)), (1, .inl (.int a_good)), (2, .inl (.int a_z)), (3, .inl (.int x3)), (4, .inl (.int x4))]) sf_c1 rfl rfl (by omega) (fun v52 ev52 => ?_)
              refine sf_can (L' := [(0, .inl (.ref 71)), (1, .inl (.int a_good)), (2, .inl (.int a_z)), (3, .inl (.int x3)), (4, .inl (.int x4)), (5, .inl (.int z51)), (6, .inl (.int v52))]) rfl ?_
              exact i_110 w x3 x4 z51 v52 I_w s_w (by omega) (by omega) (by omega) (by omega) (by omega) (by omega) (by omega) (by omega) (by omega) (by omega) (by omega)
  have hl1 := hl 1000000000000
  obtain ⟨i_39, i_71, i_80, i_110⟩ := hl1
  clear hl
  refine sf_sp (L := [(0, .inl (.ref 71)), (1, .inl (.int a_good)), (2, .inl (.int a_z))]) rfl rfl ?_
  generalize ku_M_madeIn rt xt 1000000000000 = K at i_39 i_71 i_80 i_110 ⊢
  refine sf_aload rfl ?_
  refine sf_iload rfl ?_
  refine sf_iconst sf_c0 (fun z53 ez53 => ?_)
  refine sf_iconst sf_c15 (fun z54 ez54 => ?_)
  refine sf_call3 rfl rfl rfl ?_
  refine sf_sp (L := [(0, .inl (.int a_good)), (1, .inl (.int z53)), (2, .inl (.int z54))]) rfl rfl ?_
  refine sf_iload rfl ?_
  refine sf_iload rfl ?_
  refine sf_f2_lt (fun h55 => ?_) (fun h55 => ?_)
  · refine sf_iconst sf_c0 (fun z56 ez56 => ?_)
    refine sf_zreturn (by omega) rfl rfl ?_
    refine sf_f1_eq (fun h57 => ?_) (fun h57 => absurd h57 (by omega))
    refine sf_iconst sf_c1 (fun z58 ez58 => ?_)
    refine sf_puti hI0 hs0 rfl rfl (sf_bd _) rfl rfl rfl (fun w59 Iw59 sw59 kw59 uw59 => ?_)
    clear kw59
    refine sf_aload rfl ?_
    refine sf_geti Iw59 rfl rfl (fun v60 lv60 uv60 ev60 => ?_)
    rw [uw59] at ev60
    refine sf_f1_le (fun h61 => absurd h61 (by omega)) (fun h61 => ?_)
    refine sf_iconst sf_c0 (fun z62 ez62 => ?_)
    refine sf_zreturn (by omega) rfl rfl ?_
    exact hR _ _ Iw59 sw59 (by omega) (by omega) 
  · refine sf_iload rfl ?_
    refine sf_iload rfl ?_
    refine sf_f2_gt (fun h63 => ?_) (fun h63 => ?_)
    · refine sf_iconst sf_c0 (fun z64 ez64 => ?_)
      refine sf_zreturn (by omega) rfl rfl ?_
      refine sf_f1_eq (fun h65 => ?_) (fun h65 => absurd h65 (by omega))
      refine sf_iconst sf_c1 (fun z66 ez66 => ?_)
      refine sf_puti hI0 hs0 rfl rfl (sf_bd _) rfl rfl rfl (fun w67 Iw67 sw67 kw67 uw67 => ?_)
      clear kw67
      refine sf_aload rfl ?_
      refine sf_geti Iw67 rfl rfl (fun v68 lv68 uv68 ev68 => ?_)
      rw [uw67] at ev68
      refine sf_f1_le (fun h69 => absurd h69 (by omega)) (fun h69 => ?_)
      refine sf_iconst sf_c0 (fun z70 ez70 => ?_)
      refine sf_zreturn (by omega) rfl rfl ?_
      exact hR _ _ Iw67 sw67 (by omega) (by omega) 
    · refine sf_iconst sf_c1 (fun z71 ez71 => ?_)
      refine sf_zreturn (by omega) rfl rfl ?_
      refine sf_f1_eq (fun h72 => absurd h72 (by omega)) (fun h72 => ?_)
      refine sf_iload rfl ?_
      refine sf_iconst sf_c0 (fun z73 ez73 => ?_)
      refine sf_iconst sf_c3 (fun z74 ez74 => ?_)
      refine sf_call3 rfl rfl rfl ?_
      refine sf_sp (L := [(0, .inl (.int a_z)), (1, .inl (.int z73)), (2, .inl (.int z74))]) rfl rfl ?_
      refine sf_iload rfl ?_
      refine sf_iload rfl ?_
      refine sf_f2_lt (fun h75 => ?_) (fun h75 => ?_)
      · refine sf_iconst sf_c0 (fun z76 ez76 => ?_)
        refine sf_zreturn (by omega) rfl rfl ?_
        refine sf_f1_eq (fun h77 => ?_) (fun h77 => absurd h77 (by omega))
        refine sf_iconst sf_c1 (fun z78 ez78 => ?_)
        refine sf_puti hI0 hs0 rfl rfl (sf_bd _) rfl rfl rfl (fun w79 Iw79 sw79 kw79 uw79 => ?_)
        clear kw79
        refine sf_aload rfl ?_
        refine sf_geti Iw79 rfl rfl (fun v80 lv80 uv80 ev80 => ?_)
        rw [uw79] at ev80
        refine sf_f1_le (fun h81 => absurd h81 (by omega)) (fun h81 => ?_)
        refine sf_iconst sf_c0 (fun z82 ez82 => ?_)
        refine sf_zreturn (by omega) rfl rfl ?_
        exact hR _ _ Iw79 sw79 (by omega) (by omega) 
      · refine sf_iload rfl ?_
        refine sf_iload rfl ?_
        refine sf_f2_gt (fun h83 => ?_) (fun h83 => ?_)
        · refine sf_iconst sf_c0 (fun z84 ez84 => ?_)
          refine sf_zreturn (by omega) rfl rfl ?_
          refine sf_f1_eq (fun h85 => ?_) (fun h85 => absurd h85 (by omega))
          refine sf_iconst sf_c1 (fun z86 ez86 => ?_)
          refine sf_puti hI0 hs0 rfl rfl (sf_bd _) rfl rfl rfl (fun w87 Iw87 sw87 kw87 uw87 => ?_)
          clear kw87
          refine sf_aload rfl ?_
          refine sf_geti Iw87 rfl rfl (fun v88 lv88 uv88 ev88 => ?_)
          rw [uw87] at ev88
          refine sf_f1_le (fun h89 => absurd h89 (by omega)) (fun h89 => ?_)
          refine sf_iconst sf_c0 (fun z90 ez90 => ?_)
          refine sf_zreturn (by omega) rfl rfl ?_
          exact hR _ _ Iw87 sw87 (by omega) (by omega) 
        · refine sf_iconst sf_c1 (fun z91 ez91 => ?_)
          refine sf_zreturn (by omega) rfl rfl ?_
          refine sf_f1_eq (fun h92 => absurd h92 (by omega)) (fun h92 => ?_)
          refine sf_iconst sf_c0 (fun z93 ez93 => ?_)
          refine sf_puti hI0 hs0 rfl rfl (sf_bd _) rfl rfl rfl (fun w94 Iw94 sw94 kw94 uw94 => ?_)
          clear kw94
          refine sf_aload rfl ?_
          refine sf_geti Iw94 rfl rfl (fun v95 lv95 uv95 ev95 => ?_)
          rw [uw94] at ev95
          refine sf_f1_le (fun h96 => ?_) (fun h96 => absurd h96 (by omega))
          refine sf_iconst sf_c0 (fun z97 ez97 => ?_)
          refine sf_istore (L' := [(0, .inl (.ref 71)), (1, .inl (.int a_good)), (2, .inl (.int a_z))]) rfl ?_
          refine sf_can (L' := [(0, .inl (.ref 71)), (1, .inl (.int a_good)), (2, .inl (.int a_z)), (3, .inl (.int z97))]) rfl ?_
          exact i_39 w94 z97 Iw94 sw94 (by omega) (by omega) (by omega) (by omega)
