def sm_M_heading : List Nat := [71, 72, 73, 8100, 8101]
set_option maxRecDepth 100000 in
set_option maxHeartbeats 4000000 in
theorem sc_M_heading {w0 : wq_W} (hI0 : sf_I w0) {rt : Option wq_V → wq_W → Prop} {xt : Nat → wq_W → Prop} {a_above : Int32} (p0 : sf_J (sf_a w0 3) (sf_a w0 72) (sf_f w0 71 1).toInt) (hR : ∀ (r : Int32) (w : wq_W), sf_I w → sf_m sm_M_heading w0 w → 0 ≤ r.toInt → r.toInt ≤ 24 → ((((sf_f w 71 0).toInt = 0 ∧ (a_above.toInt = -1 ∨ (0 ≤ a_above.toInt ∧ a_above.toInt < (sf_f w0 71 1).toInt)) ∧ ((sf_f w0 71 1).toInt < 24 ∧ (a_above.toInt = -1 ∨ (sf_a w0 3 a_above.toInt.toNat).toInt < 5)) ∧ (sf_f w 71 1).toInt = (sf_f w0 71 1).toInt + 1 ∧ r.toInt = (sf_f w0 71 1).toInt) ∨ ((sf_f w 71 0).toInt = 1 ∧ ¬ (a_above.toInt = -1 ∨ (0 ≤ a_above.toInt ∧ a_above.toInt < (sf_f w0 71 1).toInt)) ∧ (sf_f w 71 1).toInt = (sf_f w0 71 1).toInt) ∨ ((sf_f w 71 0).toInt = 2 ∧ (a_above.toInt = -1 ∨ (0 ≤ a_above.toInt ∧ a_above.toInt < (sf_f w0 71 1).toInt)) ∧ ¬ ((sf_f w0 71 1).toInt < 24 ∧ (a_above.toInt = -1 ∨ (sf_a w0 3 a_above.toInt.toNat).toInt < 5)) ∧ (sf_f w 71 1).toInt = (sf_f w0 71 1).toInt))) → (sf_G2 (sf_a w0 72) (sf_a w 72) (sf_f w0 71 1).toInt (sf_f w 71 1).toInt (sf_f w 71 0).toInt a_above) → rt (some (.inl (.int r))) w) : ks_M_heading [.inl (.ref 71), .inl (.int a_above)] w0 rt xt := by
  have hs0 : sf_m sm_M_heading w0 w0 := sf_m0
  refine sf_sp (L := [(0, .inl (.ref 71)), (1, .inl (.int a_above))]) rfl rfl ?_
  refine sf_aload rfl ?_
  refine sf_iload rfl ?_
  refine sf_iconst sf_cm1 (fun z1 ez1 => ?_)
  refine sf_f2_eq (fun h2 => ?_) (fun h2 => ?_)
  · refine sf_aload rfl ?_
    refine sf_geti hI0 rfl rfl (fun v3 lv3 uv3 ev3 => ?_)
    refine sf_iconst sf_c24 (fun z4 ez4 => ?_)
    refine sf_f2_eq (fun h5 => ?_) (fun h5 => ?_)
    · refine sf_iconst sf_c2 (fun z6 ez6 => ?_)
      refine sf_puti hI0 hs0 rfl rfl (sf_bd _) rfl rfl rfl (fun w7 Iw7 sw7 kw7 uw7 => ?_)
      have c8 := sf_ma kw7 (p := 72) rfl
      have c9 := sf_mf kw7 (p := 71) (j := 1) rfl
      clear kw7
      have I9 := Iw7
      have q9 := c9
      refine sf_aload rfl ?_
      refine sf_geti Iw7 rfl rfl (fun v10 lv10 uv10 ev10 => ?_)
      rw [uw7] at ev10
      refine sf_f1_le (fun h11 => absurd h11 (by omega)) (fun h11 => ?_)
      refine sf_iconst sf_c0 (fun z12 ez12 => ?_)
      refine sf_ireturn rfl rfl ?_
      exact hR _ _ Iw7 sw7 (by omega) (by omega) (by rw [uw7]; rw [c9]; first | (refine Or.inl ⟨by omega, ?_⟩; omega) | (refine Or.inr (Or.inl ⟨by omega, ?_⟩); omega) | (refine Or.inr (Or.inr ⟨by omega, ?_⟩); omega)) (by rw [uw7]; rw [c9]; rw [c8]; first | exact Or.inl ⟨by omega, rfl, by omega⟩ | exact Or.inr ⟨by omega, gpa2, by omega, by omega, by omega⟩)
    · refine sf_iload rfl ?_
      refine sf_f1_lt (fun h13 => ?_) (fun h13 => absurd h13 (by omega))
      refine sf_iconst sf_c0 (fun z14 ez14 => ?_)
      refine sf_puti hI0 hs0 rfl rfl (sf_bd _) rfl rfl rfl (fun w15 Iw15 sw15 kw15 uw15 => ?_)
      have c16 := sf_ma kw15 (p := 72) rfl
      have c17 := sf_mf kw15 (p := 71) (j := 1) rfl
      clear kw15
      have I9 := Iw15
      have q9 := c17
      refine sf_aload rfl ?_
      refine sf_geti Iw15 rfl rfl (fun v18 lv18 uv18 ev18 => ?_)
      rw [uw15] at ev18
      refine sf_f1_le (fun h19 => ?_) (fun h19 => absurd h19 (by omega))
      refine sf_aload rfl ?_
      refine sf_getr Iw15 rfl rfl ?_
      refine sf_aload rfl ?_
      refine sf_geti Iw15 rfl rfl (fun v20 lv20 uv20 ev20 => ?_)
      rw [c17] at ev20
      refine sf_iload rfl ?_
      have g72 := c16
      refine sf_iastR Iw15 sw15 rfl (by omega) (by omega) rfl (fun w9 h1 h2 => sf_R_pa Iw15 h1 h2 (by omega) (by omega)) (fun w21 Iw21 sw21 kw21 uw21 => ?_)
      have c22 := sf_mf kw21 (p := 71) (j := 0) rfl
      have c23 := sf_mf kw21 (p := 71) (j := 1) rfl
      clear kw21
      have gpa := uw21
      have gp0 : (sf_a w21 72 0).toInt < 0 := by
        rw [gpa]; unfold upd; split
        · omega
        · have r1 := I9.2.1.2.1; rw [q9] at r1; omega
      have gpa2 := uw21
      have gi : v20.toInt = (sf_f w0 71 1).toInt := by omega
      rw [gi, g72] at gpa2
      refine sf_aload rfl ?_
      refine sf_getr Iw21 rfl rfl ?_
      refine sf_aload rfl ?_
      refine sf_geti Iw21 rfl rfl (fun v24 lv24 uv24 ev24 => ?_)
      rw [c23, c17] at ev24
      refine sf_iconst sf_cm1 (fun z25 ez25 => ?_)
      refine sf_iastR Iw21 sw21 rfl (by omega) (sf_bd _) rfl (fun w9 h1 h2 => sf_R_rk Iw21 h1 h2 (Or.inr gp0)) (fun w26 Iw26 sw26 kw26 uw26 => ?_)
      have c27 := sf_mf kw26 (p := 71) (j := 0) rfl
      have c28 := sf_ma kw26 (p := 72) rfl
      have c29 := sf_mf kw26 (p := 71) (j := 1) rfl
      clear kw26 uw26
      refine sf_aload rfl ?_
      refine sf_dup rfl ?_
      refine sf_geti Iw26 rfl rfl (fun v30 lv30 uv30 ev30 => ?_)
      rw [c29, c23, c17] at ev30
      refine sf_iconst sf_c1 (fun z31 ez31 => ?_)
      refine sf_iadd (by omega) (fun v32 ev32 => ?_)
      refine sf_putiR Iw26 sw26 rfl rfl (by omega) rfl rfl (fun w9 h1 _ => sf_R_hd Iw26 h1 (by rw [c28]; exact gp0)) (fun w33 Iw33 sw33 kw33 uw33 => ?_)
      have c34 := sf_mf kw33 (p := 71) (j := 0) rfl
      have c35 := sf_ma kw33 (p := 72) rfl
      clear kw33
      refine sf_aload rfl ?_
      refine sf_geti Iw33 rfl rfl (fun v36 lv36 uv36 ev36 => ?_)
      rw [uw33] at ev36
      refine sf_iconst sf_c1 (fun z37 ez37 => ?_)
      refine sf_isub (by omega) (fun v38 ev38 => ?_)
      refine sf_ireturn rfl rfl ?_
      exact hR _ _ Iw33 sw33 (by omega) (by omega) (by rw [c34, c27, c22, uw15]; rw [uw33]; first | (refine Or.inl ⟨by omega, ?_⟩; omega) | (refine Or.inr (Or.inl ⟨by omega, ?_⟩); omega) | (refine Or.inr (Or.inr ⟨by omega, ?_⟩); omega)) (by rw [c34, c27, c22, uw15]; rw [uw33]; rw [c35, c28]; first | exact Or.inl ⟨by omega, rfl, by omega⟩ | exact Or.inr ⟨by omega, gpa2, by omega, by omega, by omega⟩)
  · refine sf_aload rfl ?_
    refine sf_iload rfl ?_
    refine sf_call2 rfl rfl rfl ?_
    refine sf_rv hI0 rfl ?_
    refine sf_sp (L := [(0, .inl (.ref 71)), (1, .inl (.int a_above))]) rfl rfl ?_
    refine sf_iload rfl ?_
    refine sf_f1_lt (fun h39 => ?_) (fun h39 => ?_)
    · refine sf_iconst sf_c0 (fun z40 ez40 => ?_)
      refine sf_zreturn (by omega) rfl rfl ?_
      refine sf_f1_eq (fun h41 => ?_) (fun h41 => absurd h41 (by omega))
      refine sf_iconst sf_c1 (fun z42 ez42 => ?_)
      refine sf_puti hI0 hs0 rfl rfl (sf_bd _) rfl rfl rfl (fun w43 Iw43 sw43 kw43 uw43 => ?_)
      have c44 := sf_ma kw43 (p := 72) rfl
      have c45 := sf_mf kw43 (p := 71) (j := 1) rfl
      clear kw43
      have I9 := Iw43
      have q9 := c45
      refine sf_aload rfl ?_
      refine sf_geti Iw43 rfl rfl (fun v46 lv46 uv46 ev46 => ?_)
      rw [uw43] at ev46
      refine sf_f1_le (fun h47 => absurd h47 (by omega)) (fun h47 => ?_)
      refine sf_iconst sf_c0 (fun z48 ez48 => ?_)
      refine sf_ireturn rfl rfl ?_
      exact hR _ _ Iw43 sw43 (by omega) (by omega) (by rw [uw43]; rw [c45]; first | (refine Or.inl ⟨by omega, ?_⟩; omega) | (refine Or.inr (Or.inl ⟨by omega, ?_⟩); omega) | (refine Or.inr (Or.inr ⟨by omega, ?_⟩); omega)) (by rw [uw43]; rw [c45]; rw [c44]; first | exact Or.inl ⟨by omega, rfl, by omega⟩ | exact Or.inr ⟨by omega, gpa2, by omega, by omega, by omega⟩)
    · refine sf_iload rfl ?_
      refine sf_aload rfl ?_
      refine sf_geti hI0 rfl rfl (fun v49 lv49 uv49 ev49 => ?_)
      refine sf_f2_ge (fun h50 => ?_) (fun h50 => ?_)
      · refine sf_iconst sf_c0 (fun z51 ez51 => ?_)
        refine sf_zreturn (by omega) rfl rfl ?_
        refine sf_f1_eq (fun h52 => ?_) (fun h52 => absurd h52 (by omega))
        refine sf_iconst sf_c1 (fun z53 ez53 => ?_)
        refine sf_puti hI0 hs0 rfl rfl (sf_bd _) rfl rfl rfl (fun w54 Iw54 sw54 kw54 uw54 => ?_)
        have c55 := sf_ma kw54 (p := 72) rfl
        have c56 := sf_mf kw54 (p := 71) (j := 1) rfl
        clear kw54
        have I9 := Iw54
        have q9 := c56
        refine sf_aload rfl ?_
        refine sf_geti Iw54 rfl rfl (fun v57 lv57 uv57 ev57 => ?_)
        rw [uw54] at ev57
        refine sf_f1_le (fun h58 => absurd h58 (by omega)) (fun h58 => ?_)
        refine sf_iconst sf_c0 (fun z59 ez59 => ?_)
        refine sf_ireturn rfl rfl ?_
        exact hR _ _ Iw54 sw54 (by omega) (by omega) (by rw [uw54]; rw [c56]; first | (refine Or.inl ⟨by omega, ?_⟩; omega) | (refine Or.inr (Or.inl ⟨by omega, ?_⟩); omega) | (refine Or.inr (Or.inr ⟨by omega, ?_⟩); omega)) (by rw [uw54]; rw [c56]; rw [c55]; first | exact Or.inl ⟨by omega, rfl, by omega⟩ | exact Or.inr ⟨by omega, gpa2, by omega, by omega, by omega⟩)
      · refine sf_iconst sf_c1 (fun z60 ez60 => ?_)
        refine sf_zreturn (by omega) rfl rfl ?_
        refine sf_f1_eq (fun h61 => absurd h61 (by omega)) (fun h61 => ?_)
        refine sf_aload rfl ?_
        refine sf_geti hI0 rfl rfl (fun v62 lv62 uv62 ev62 => ?_)
        refine sf_iconst sf_c24 (fun z63 ez63 => ?_)
        refine sf_f2_eq (fun h64 => ?_) (fun h64 => ?_)
        · refine sf_iconst sf_c2 (fun z65 ez65 => ?_)
          refine sf_puti hI0 hs0 rfl rfl (sf_bd _) rfl rfl rfl (fun w66 Iw66 sw66 kw66 uw66 => ?_)
          have c67 := sf_ma kw66 (p := 72) rfl
          have c68 := sf_mf kw66 (p := 71) (j := 1) rfl
          clear kw66
          have I9 := Iw66
          have q9 := c68
          refine sf_aload rfl ?_
          refine sf_geti Iw66 rfl rfl (fun v69 lv69 uv69 ev69 => ?_)
          rw [uw66] at ev69
          refine sf_f1_le (fun h70 => absurd h70 (by omega)) (fun h70 => ?_)
          refine sf_iconst sf_c0 (fun z71 ez71 => ?_)
          refine sf_ireturn rfl rfl ?_
          exact hR _ _ Iw66 sw66 (by omega) (by omega) (by rw [uw66]; rw [c68]; first | (refine Or.inl ⟨by omega, ?_⟩; omega) | (refine Or.inr (Or.inl ⟨by omega, ?_⟩); omega) | (refine Or.inr (Or.inr ⟨by omega, ?_⟩); omega)) (by rw [uw66]; rw [c68]; rw [c67]; first | exact Or.inl ⟨by omega, rfl, by omega⟩ | exact Or.inr ⟨by omega, gpa2, by omega, by omega, by omega⟩)
        · refine sf_iload rfl ?_
          refine sf_f1_lt (fun h72 => absurd h72 (by omega)) (fun h72 => ?_)
          refine sf_aload rfl ?_
          refine sf_iload rfl ?_
          refine sf_call2 rfl rfl rfl ?_
          refine sf_rv hI0 rfl ?_
          refine sc_M_depthOf_J hI0 (by omega) (by omega) (by omega) (by omega) (by exact p0) (fun v73 lv73 uv73 q74_0 q74_1 => ?_)
          refine sf_iconst sf_c5 (fun z75 ez75 => ?_)
          refine sf_f2_eq (fun h76 => ?_) (fun h76 => ?_)
          · refine sf_iconst sf_c2 (fun z77 ez77 => ?_)
            refine sf_puti hI0 hs0 rfl rfl (sf_bd _) rfl rfl rfl (fun w78 Iw78 sw78 kw78 uw78 => ?_)
            have c79 := sf_ma kw78 (p := 72) rfl
            have c80 := sf_mf kw78 (p := 71) (j := 1) rfl
            clear kw78
            have I9 := Iw78
            have q9 := c80
            refine sf_aload rfl ?_
            refine sf_geti Iw78 rfl rfl (fun v81 lv81 uv81 ev81 => ?_)
            rw [uw78] at ev81
            refine sf_f1_le (fun h82 => absurd h82 (by omega)) (fun h82 => ?_)
            refine sf_iconst sf_c0 (fun z83 ez83 => ?_)
            refine sf_ireturn rfl rfl ?_
            exact hR _ _ Iw78 sw78 (by omega) (by omega) (by rw [uw78]; rw [c80]; first | (refine Or.inl ⟨by omega, ?_⟩; omega) | (refine Or.inr (Or.inl ⟨by omega, ?_⟩); omega) | (refine Or.inr (Or.inr ⟨by omega, ?_⟩); omega)) (by rw [uw78]; rw [c80]; rw [c79]; first | exact Or.inl ⟨by omega, rfl, by omega⟩ | exact Or.inr ⟨by omega, gpa2, by omega, by omega, by omega⟩)
          · refine sf_iconst sf_c0 (fun z84 ez84 => ?_)
            refine sf_puti hI0 hs0 rfl rfl (sf_bd _) rfl rfl rfl (fun w85 Iw85 sw85 kw85 uw85 => ?_)
            have c86 := sf_ma kw85 (p := 72) rfl
            have c87 := sf_mf kw85 (p := 71) (j := 1) rfl
            clear kw85
            have I9 := Iw85
            have q9 := c87
            refine sf_aload rfl ?_
            refine sf_geti Iw85 rfl rfl (fun v88 lv88 uv88 ev88 => ?_)
            rw [uw85] at ev88
            refine sf_f1_le (fun h89 => ?_) (fun h89 => absurd h89 (by omega))
            refine sf_aload rfl ?_
            refine sf_getr Iw85 rfl rfl ?_
            refine sf_aload rfl ?_
            refine sf_geti Iw85 rfl rfl (fun v90 lv90 uv90 ev90 => ?_)
            rw [c87] at ev90
            refine sf_iload rfl ?_
            have g72 := c86
            refine sf_iastR Iw85 sw85 rfl (by omega) (by omega) rfl (fun w9 h1 h2 => sf_R_pa Iw85 h1 h2 (by omega) (by omega)) (fun w91 Iw91 sw91 kw91 uw91 => ?_)
            have c92 := sf_mf kw91 (p := 71) (j := 0) rfl
            have c93 := sf_mf kw91 (p := 71) (j := 1) rfl
            clear kw91
            have gpa := uw91
            have gp0 : (sf_a w91 72 0).toInt < 0 := by
              rw [gpa]; unfold upd; split
              · omega
              · have r1 := I9.2.1.2.1; rw [q9] at r1; omega
            have gpa2 := uw91
            have gi : v90.toInt = (sf_f w0 71 1).toInt := by omega
            rw [gi, g72] at gpa2
            refine sf_aload rfl ?_
            refine sf_getr Iw91 rfl rfl ?_
            refine sf_aload rfl ?_
            refine sf_geti Iw91 rfl rfl (fun v94 lv94 uv94 ev94 => ?_)
            rw [c93, c87] at ev94
            refine sf_iconst sf_cm1 (fun z95 ez95 => ?_)
            refine sf_iastR Iw91 sw91 rfl (by omega) (sf_bd _) rfl (fun w9 h1 h2 => sf_R_rk Iw91 h1 h2 (Or.inr gp0)) (fun w96 Iw96 sw96 kw96 uw96 => ?_)
            have c97 := sf_mf kw96 (p := 71) (j := 0) rfl
            have c98 := sf_ma kw96 (p := 72) rfl
            have c99 := sf_mf kw96 (p := 71) (j := 1) rfl
            clear kw96 uw96
            refine sf_aload rfl ?_
            refine sf_dup rfl ?_
            refine sf_geti Iw96 rfl rfl (fun v100 lv100 uv100 ev100 => ?_)
            rw [c99, c93, c87] at ev100
            refine sf_iconst sf_c1 (fun z101 ez101 => ?_)
            refine sf_iadd (by omega) (fun v102 ev102 => ?_)
            refine sf_putiR Iw96 sw96 rfl rfl (by omega) rfl rfl (fun w9 h1 _ => sf_R_hd Iw96 h1 (by rw [c98]; exact gp0)) (fun w103 Iw103 sw103 kw103 uw103 => ?_)
            have c104 := sf_mf kw103 (p := 71) (j := 0) rfl
            have c105 := sf_ma kw103 (p := 72) rfl
            clear kw103
            refine sf_aload rfl ?_
            refine sf_geti Iw103 rfl rfl (fun v106 lv106 uv106 ev106 => ?_)
            rw [uw103] at ev106
            refine sf_iconst sf_c1 (fun z107 ez107 => ?_)
            refine sf_isub (by omega) (fun v108 ev108 => ?_)
            refine sf_ireturn rfl rfl ?_
            exact hR _ _ Iw103 sw103 (by omega) (by omega) (by rw [c104, c97, c92, uw85]; rw [uw103]; first | (refine Or.inl ⟨by omega, ?_⟩; omega) | (refine Or.inr (Or.inl ⟨by omega, ?_⟩); omega) | (refine Or.inr (Or.inr ⟨by omega, ?_⟩); omega)) (by rw [c104, c97, c92, uw85]; rw [uw103]; rw [c105, c98]; first | exact Or.inl ⟨by omega, rfl, by omega⟩ | exact Or.inr ⟨by omega, gpa2, by omega, by omega, by omega⟩)
def sm_M_note : List Nat := [71, 75, 76, 77, 78, 8100, 8105]
set_option maxRecDepth 100000 in
set_option maxHeartbeats 4000000 in
theorem sc_M_note {w0 : wq_W} (hI0 : sf_I w0) {rt : Option wq_V → wq_W → Prop} {xt : Nat → wq_W → Prop} {a_heading : Int32} {a_kind : Int32} {a_fact : Int32} {a_amount : Int32}  (hR : ∀ (r : Int32) (w : wq_W), sf_I w → sf_m sm_M_note w0 w → 0 ≤ r.toInt → r.toInt ≤ 40 → ((((sf_f w 71 0).toInt = 0 ∧ (0 ≤ a_heading.toInt ∧ a_heading.toInt < (sf_f w0 71 1).toInt ∧ 0 ≤ a_kind.toInt ∧ a_kind.toInt ≤ 2 ∧ 0 ≤ a_fact.toInt ∧ a_fact.toInt ≤ 7 ∧ 1 ≤ a_amount.toInt ∧ a_amount.toInt ≤ 1000 ∧ (a_kind.toInt ≠ 2 ∨ a_fact.toInt < 4)) ∧ ((sf_f w0 71 5).toInt < 40) ∧ (sf_f w 71 5).toInt = (sf_f w0 71 5).toInt + 1 ∧ r.toInt = (sf_f w0 71 5).toInt) ∨ ((sf_f w 71 0).toInt = 1 ∧ ¬ (0 ≤ a_heading.toInt ∧ a_heading.toInt < (sf_f w0 71 1).toInt ∧ 0 ≤ a_kind.toInt ∧ a_kind.toInt ≤ 2 ∧ 0 ≤ a_fact.toInt ∧ a_fact.toInt ≤ 7 ∧ 1 ≤ a_amount.toInt ∧ a_amount.toInt ≤ 1000 ∧ (a_kind.toInt ≠ 2 ∨ a_fact.toInt < 4)) ∧ (sf_f w 71 5).toInt = (sf_f w0 71 5).toInt) ∨ ((sf_f w 71 0).toInt = 2 ∧ (0 ≤ a_heading.toInt ∧ a_heading.toInt < (sf_f w0 71 1).toInt ∧ 0 ≤ a_kind.toInt ∧ a_kind.toInt ≤ 2 ∧ 0 ≤ a_fact.toInt ∧ a_fact.toInt ≤ 7 ∧ 1 ≤ a_amount.toInt ∧ a_amount.toInt ≤ 1000 ∧ (a_kind.toInt ≠ 2 ∨ a_fact.toInt < 4)) ∧ ¬ ((sf_f w0 71 5).toInt < 40) ∧ (sf_f w 71 5).toInt = (sf_f w0 71 5).toInt))) → rt (some (.inl (.int r))) w) : ks_M_note [.inl (.ref 71), .inl (.int a_heading), .inl (.int a_kind), .inl (.int a_fact), .inl (.int a_amount)] w0 rt xt := by
  have hs0 : sf_m sm_M_note w0 w0 := sf_m0
  refine sf_sp (L := [(0, .inl (.ref 71)), (1, .inl (.int a_heading)), (2, .inl (.int a_kind)), (3, .inl (.int a_fact)), (4, .inl (.int a_amount))]) rfl rfl ?_
  refine sf_aload rfl ?_
  refine sf_iload rfl ?_
  refine sf_call2 rfl rfl rfl ?_
  refine sf_rv hI0 rfl ?_
  refine sf_sp (L := [(0, .inl (.ref 71)), (1, .inl (.int a_heading))]) rfl rfl ?_
  refine sf_iload rfl ?_
  refine sf_f1_lt (fun h1 => ?_) (fun h1 => ?_)
  · refine sf_iconst sf_c0 (fun z2 ez2 => ?_)
    refine sf_zreturn (by omega) rfl rfl ?_
    refine sf_f1_eq (fun h3 => ?_) (fun h3 => absurd h3 (by omega))
    refine sf_iconst sf_c0 (fun z4 ez4 => ?_)
    refine sf_istore (L' := [(0, .inl (.ref 71)), (1, .inl (.int a_heading)), (2, .inl (.int a_kind)), (3, .inl (.int a_fact)), (4, .inl (.int a_amount))]) rfl ?_
    refine sf_aload rfl ?_
    refine sf_iload rfl ?_
    refine sf_f1_eq (fun h5 => ?_) (fun h5 => absurd h5 (by omega))
    refine sf_iconst sf_c1 (fun z6 ez6 => ?_)
    refine sf_puti hI0 hs0 rfl rfl (sf_bd _) rfl rfl rfl (fun w7 Iw7 sw7 kw7 uw7 => ?_)
    have c8 := sf_mf kw7 (p := 71) (j := 5) rfl
    clear kw7
    refine sf_aload rfl ?_
    refine sf_geti Iw7 rfl rfl (fun v9 lv9 uv9 ev9 => ?_)
    rw [uw7] at ev9
    refine sf_f1_le (fun h10 => absurd h10 (by omega)) (fun h10 => ?_)
    refine sf_iconst sf_c0 (fun z11 ez11 => ?_)
    refine sf_ireturn rfl rfl ?_
    exact hR _ _ Iw7 sw7 (by omega) (by omega) (by rw [uw7]; rw [c8]; first | (refine Or.inl ⟨by omega, ?_⟩; omega) | (refine Or.inr (Or.inl ⟨by omega, ?_⟩); omega) | (refine Or.inr (Or.inr ⟨by omega, ?_⟩); omega))
  · refine sf_iload rfl ?_
    refine sf_aload rfl ?_
    refine sf_geti hI0 rfl rfl (fun v12 lv12 uv12 ev12 => ?_)
    refine sf_f2_ge (fun h13 => ?_) (fun h13 => ?_)
    · refine sf_iconst sf_c0 (fun z14 ez14 => ?_)
      refine sf_zreturn (by omega) rfl rfl ?_
      refine sf_f1_eq (fun h15 => ?_) (fun h15 => absurd h15 (by omega))
      refine sf_iconst sf_c0 (fun z16 ez16 => ?_)
      refine sf_istore (L' := [(0, .inl (.ref 71)), (1, .inl (.int a_heading)), (2, .inl (.int a_kind)), (3, .inl (.int a_fact)), (4, .inl (.int a_amount))]) rfl ?_
      refine sf_aload rfl ?_
      refine sf_iload rfl ?_
      refine sf_f1_eq (fun h17 => ?_) (fun h17 => absurd h17 (by omega))
      refine sf_iconst sf_c1 (fun z18 ez18 => ?_)
      refine sf_puti hI0 hs0 rfl rfl (sf_bd _) rfl rfl rfl (fun w19 Iw19 sw19 kw19 uw19 => ?_)
      have c20 := sf_mf kw19 (p := 71) (j := 5) rfl
      clear kw19
      refine sf_aload rfl ?_
      refine sf_geti Iw19 rfl rfl (fun v21 lv21 uv21 ev21 => ?_)
      rw [uw19] at ev21
      refine sf_f1_le (fun h22 => absurd h22 (by omega)) (fun h22 => ?_)
      refine sf_iconst sf_c0 (fun z23 ez23 => ?_)
      refine sf_ireturn rfl rfl ?_
      exact hR _ _ Iw19 sw19 (by omega) (by omega) (by rw [uw19]; rw [c20]; first | (refine Or.inl ⟨by omega, ?_⟩; omega) | (refine Or.inr (Or.inl ⟨by omega, ?_⟩); omega) | (refine Or.inr (Or.inr ⟨by omega, ?_⟩); omega))
    · refine sf_iconst sf_c1 (fun z24 ez24 => ?_)
      refine sf_zreturn (by omega) rfl rfl ?_
      refine sf_f1_eq (fun h25 => absurd h25 (by omega)) (fun h25 => ?_)
      refine sf_iload rfl ?_
      refine sf_iconst sf_c0 (fun z26 ez26 => ?_)
      refine sf_iconst sf_c2 (fun z27 ez27 => ?_)
      refine sf_call3 rfl rfl rfl ?_
      refine sf_sp (L := [(0, .inl (.int a_kind)), (1, .inl (.int z26)), (2, .inl (.int z27))]) rfl rfl ?_
      refine sf_iload rfl ?_
      refine sf_iload rfl ?_
      refine sf_f2_lt (fun h28 => ?_) (fun h28 => ?_)
      · refine sf_iconst sf_c0 (fun z29 ez29 => ?_)
        refine sf_zreturn (by omega) rfl rfl ?_
        refine sf_f1_eq (fun h30 => ?_) (fun h30 => absurd h30 (by omega))
        refine sf_iconst sf_c0 (fun z31 ez31 => ?_)
        refine sf_istore (L' := [(0, .inl (.ref 71)), (1, .inl (.int a_heading)), (2, .inl (.int a_kind)), (3, .inl (.int a_fact)), (4, .inl (.int a_amount))]) rfl ?_
        refine sf_aload rfl ?_
        refine sf_iload rfl ?_
        refine sf_f1_eq (fun h32 => ?_) (fun h32 => absurd h32 (by omega))
        refine sf_iconst sf_c1 (fun z33 ez33 => ?_)
        refine sf_puti hI0 hs0 rfl rfl (sf_bd _) rfl rfl rfl (fun w34 Iw34 sw34 kw34 uw34 => ?_)
        have c35 := sf_mf kw34 (p := 71) (j := 5) rfl
        clear kw34
        refine sf_aload rfl ?_
        refine sf_geti Iw34 rfl rfl (fun v36 lv36 uv36 ev36 => ?_)
        rw [uw34] at ev36
        refine sf_f1_le (fun h37 => absurd h37 (by omega)) (fun h37 => ?_)
        refine sf_iconst sf_c0 (fun z38 ez38 => ?_)
        refine sf_ireturn rfl rfl ?_
        exact hR _ _ Iw34 sw34 (by omega) (by omega) (by rw [uw34]; rw [c35]; first | (refine Or.inl ⟨by omega, ?_⟩; omega) | (refine Or.inr (Or.inl ⟨by omega, ?_⟩); omega) | (refine Or.inr (Or.inr ⟨by omega, ?_⟩); omega))
      · refine sf_iload rfl ?_
        refine sf_iload rfl ?_
        refine sf_f2_gt (fun h39 => ?_) (fun h39 => ?_)
        · refine sf_iconst sf_c0 (fun z40 ez40 => ?_)
          refine sf_zreturn (by omega) rfl rfl ?_
          refine sf_f1_eq (fun h41 => ?_) (fun h41 => absurd h41 (by omega))
          refine sf_iconst sf_c0 (fun z42 ez42 => ?_)
          refine sf_istore (L' := [(0, .inl (.ref 71)), (1, .inl (.int a_heading)), (2, .inl (.int a_kind)), (3, .inl (.int a_fact)), (4, .inl (.int a_amount))]) rfl ?_
          refine sf_aload rfl ?_
          refine sf_iload rfl ?_
          refine sf_f1_eq (fun h43 => ?_) (fun h43 => absurd h43 (by omega))
          refine sf_iconst sf_c1 (fun z44 ez44 => ?_)
          refine sf_puti hI0 hs0 rfl rfl (sf_bd _) rfl rfl rfl (fun w45 Iw45 sw45 kw45 uw45 => ?_)
          have c46 := sf_mf kw45 (p := 71) (j := 5) rfl
          clear kw45
          refine sf_aload rfl ?_
          refine sf_geti Iw45 rfl rfl (fun v47 lv47 uv47 ev47 => ?_)
          rw [uw45] at ev47
          refine sf_f1_le (fun h48 => absurd h48 (by omega)) (fun h48 => ?_)
          refine sf_iconst sf_c0 (fun z49 ez49 => ?_)
          refine sf_ireturn rfl rfl ?_
          exact hR _ _ Iw45 sw45 (by omega) (by omega) (by rw [uw45]; rw [c46]; first | (refine Or.inl ⟨by omega, ?_⟩; omega) | (refine Or.inr (Or.inl ⟨by omega, ?_⟩); omega) | (refine Or.inr (Or.inr ⟨by omega, ?_⟩); omega))
        · refine sf_iconst sf_c1 (fun z50 ez50 => ?_)
          refine sf_zreturn (by omega) rfl rfl ?_
          refine sf_f1_eq (fun h51 => absurd h51 (by omega)) (fun h51 => ?_)
          refine sf_iload rfl ?_
          refine sf_iconst sf_c0 (fun z52 ez52 => ?_)
          refine sf_iload rfl ?_
          refine sf_iconst sf_c2 (fun z53 ez53 => ?_)
          refine sf_f2_eq (fun h54 => ?_) (fun h54 => ?_)
          · refine sf_iconst sf_c3 (fun z55 ez55 => ?_)
            refine sf_call3 rfl rfl rfl ?_
            refine sf_sp (L := [(0, .inl (.int a_fact)), (1, .inl (.int z52)), (2, .inl (.int z55))]) rfl rfl ?_
            refine sf_iload rfl ?_
            refine sf_iload rfl ?_
            refine sf_f2_lt (fun h56 => ?_) (fun h56 => ?_)
            · refine sf_iconst sf_c0 (fun z57 ez57 => ?_)
              refine sf_zreturn (by omega) rfl rfl ?_
              refine sf_f1_eq (fun h58 => ?_) (fun h58 => absurd h58 (by omega))
              refine sf_iconst sf_c0 (fun z59 ez59 => ?_)
              refine sf_istore (L' := [(0, .inl (.ref 71)), (1, .inl (.int a_heading)), (2, .inl (.int a_kind)), (3, .inl (.int a_fact)), (4, .inl (.int a_amount))]) rfl ?_
              refine sf_aload rfl ?_
              refine sf_iload rfl ?_
              refine sf_f1_eq (fun h60 => ?_) (fun h60 => absurd h60 (by omega))
              refine sf_iconst sf_c1 (fun z61 ez61 => ?_)
              refine sf_puti hI0 hs0 rfl rfl (sf_bd _) rfl rfl rfl (fun w62 Iw62 sw62 kw62 uw62 => ?_)
              have c63 := sf_mf kw62 (p := 71) (j := 5) rfl
              clear kw62
              refine sf_aload rfl ?_
              refine sf_geti Iw62 rfl rfl (fun v64 lv64 uv64 ev64 => ?_)
              rw [uw62] at ev64
              refine sf_f1_le (fun h65 => absurd h65 (by omega)) (fun h65 => ?_)
              refine sf_iconst sf_c0 (fun z66 ez66 => ?_)
              refine sf_ireturn rfl rfl ?_
              exact hR _ _ Iw62 sw62 (by omega) (by omega) (by rw [uw62]; rw [c63]; first | (refine Or.inl ⟨by omega, ?_⟩; omega) | (refine Or.inr (Or.inl ⟨by omega, ?_⟩); omega) | (refine Or.inr (Or.inr ⟨by omega, ?_⟩); omega))
            · refine sf_iload rfl ?_
              refine sf_iload rfl ?_
              refine sf_f2_gt (fun h67 => ?_) (fun h67 => ?_)
              · refine sf_iconst sf_c0 (fun z68 ez68 => ?_)
                refine sf_zreturn (by omega) rfl rfl ?_
                refine sf_f1_eq (fun h69 => ?_) (fun h69 => absurd h69 (by omega))
                refine sf_iconst sf_c0 (fun z70 ez70 => ?_)
                refine sf_istore (L' := [(0, .inl (.ref 71)), (1, .inl (.int a_heading)), (2, .inl (.int a_kind)), (3, .inl (.int a_fact)), (4, .inl (.int a_amount))]) rfl ?_
                refine sf_aload rfl ?_
                refine sf_iload rfl ?_
                refine sf_f1_eq (fun h71 => ?_) (fun h71 => absurd h71 (by omega))
                refine sf_iconst sf_c1 (fun z72 ez72 => ?_)
                refine sf_puti hI0 hs0 rfl rfl (sf_bd _) rfl rfl rfl (fun w73 Iw73 sw73 kw73 uw73 => ?_)
                have c74 := sf_mf kw73 (p := 71) (j := 5) rfl
                clear kw73
                refine sf_aload rfl ?_
                refine sf_geti Iw73 rfl rfl (fun v75 lv75 uv75 ev75 => ?_)
                rw [uw73] at ev75
                refine sf_f1_le (fun h76 => absurd h76 (by omega)) (fun h76 => ?_)
                refine sf_iconst sf_c0 (fun z77 ez77 => ?_)
                refine sf_ireturn rfl rfl ?_
                exact hR _ _ Iw73 sw73 (by omega) (by omega) (by rw [uw73]; rw [c74]; first | (refine Or.inl ⟨by omega, ?_⟩; omega) | (refine Or.inr (Or.inl ⟨by omega, ?_⟩); omega) | (refine Or.inr (Or.inr ⟨by omega, ?_⟩); omega))
              · refine sf_iconst sf_c1 (fun z78 ez78 => ?_)
                refine sf_zreturn (by omega) rfl rfl ?_
                refine sf_f1_eq (fun h79 => absurd h79 (by omega)) (fun h79 => ?_)
                refine sf_iload rfl ?_
                refine sf_iconst sf_c1 (fun z80 ez80 => ?_)
                refine sf_iconst sf_c1000 (fun z81 ez81 => ?_)
                refine sf_call3 rfl rfl rfl ?_
                refine sf_sp (L := [(0, .inl (.int a_amount)), (1, .inl (.int z80)), (2, .inl (.int z81))]) rfl rfl ?_
                refine sf_iload rfl ?_
                refine sf_iload rfl ?_
                refine sf_f2_lt (fun h82 => ?_) (fun h82 => ?_)
                · refine sf_iconst sf_c0 (fun z83 ez83 => ?_)
                  refine sf_zreturn (by omega) rfl rfl ?_
                  refine sf_f1_eq (fun h84 => ?_) (fun h84 => absurd h84 (by omega))
                  refine sf_iconst sf_c0 (fun z85 ez85 => ?_)
                  refine sf_istore (L' := [(0, .inl (.ref 71)), (1, .inl (.int a_heading)), (2, .inl (.int a_kind)), (3, .inl (.int a_fact)), (4, .inl (.int a_amount))]) rfl ?_
                  refine sf_aload rfl ?_
                  refine sf_iload rfl ?_
                  refine sf_f1_eq (fun h86 => ?_) (fun h86 => absurd h86 (by omega))
                  refine sf_iconst sf_c1 (fun z87 ez87 => ?_)
                  refine sf_puti hI0 hs0 rfl rfl (sf_bd _) rfl rfl rfl (fun w88 Iw88 sw88 kw88 uw88 => ?_)
                  have c89 := sf_mf kw88 (p := 71) (j := 5) rfl
                  clear kw88
                  refine sf_aload rfl ?_
                  refine sf_geti Iw88 rfl rfl (fun v90 lv90 uv90 ev90 => ?_)
                  rw [uw88] at ev90
                  refine sf_f1_le (fun h91 => absurd h91 (by omega)) (fun h91 => ?_)
                  refine sf_iconst sf_c0 (fun z92 ez92 => ?_)
                  refine sf_ireturn rfl rfl ?_
                  exact hR _ _ Iw88 sw88 (by omega) (by omega) (by rw [uw88]; rw [c89]; first | (refine Or.inl ⟨by omega, ?_⟩; omega) | (refine Or.inr (Or.inl ⟨by omega, ?_⟩); omega) | (refine Or.inr (Or.inr ⟨by omega, ?_⟩); omega))
                · refine sf_iload rfl ?_
                  refine sf_iload rfl ?_
                  refine sf_f2_gt (fun h93 => ?_) (fun h93 => ?_)
                  · refine sf_iconst sf_c0 (fun z94 ez94 => ?_)
                    refine sf_zreturn (by omega) rfl rfl ?_
                    refine sf_f1_eq (fun h95 => ?_) (fun h95 => absurd h95 (by omega))
                    refine sf_iconst sf_c0 (fun z96 ez96 => ?_)
                    refine sf_istore (L' := [(0, .inl (.ref 71)), (1, .inl (.int a_heading)), (2, .inl (.int a_kind)), (3, .inl (.int a_fact)), (4, .inl (.int a_amount))]) rfl ?_
                    refine sf_aload rfl ?_
                    refine sf_iload rfl ?_
                    refine sf_f1_eq (fun h97 => ?_) (fun h97 => absurd h97 (by omega))
                    refine sf_iconst sf_c1 (fun z98 ez98 => ?_)
                    refine sf_puti hI0 hs0 rfl rfl (sf_bd _) rfl rfl rfl (fun w99 Iw99 sw99 kw99 uw99 => ?_)
                    have c100 := sf_mf kw99 (p := 71) (j := 5) rfl
                    clear kw99
                    refine sf_aload rfl ?_
                    refine sf_geti Iw99 rfl rfl (fun v101 lv101 uv101 ev101 => ?_)
                    rw [uw99] at ev101
                    refine sf_f1_le (fun h102 => absurd h102 (by omega)) (fun h102 => ?_)
                    refine sf_iconst sf_c0 (fun z103 ez103 => ?_)
                    refine sf_ireturn rfl rfl ?_
                    exact hR _ _ Iw99 sw99 (by omega) (by omega) (by rw [uw99]; rw [c100]; first | (refine Or.inl ⟨by omega, ?_⟩; omega) | (refine Or.inr (Or.inl ⟨by omega, ?_⟩); omega) | (refine Or.inr (Or.inr ⟨by omega, ?_⟩); omega))
                  · refine sf_iconst sf_c1 (fun z104 ez104 => ?_)
                    refine sf_zreturn (by omega) rfl rfl ?_
                    refine sf_f1_eq (fun h105 => absurd h105 (by omega)) (fun h105 => ?_)
                    refine sf_iconst sf_c1 (fun z106 ez106 => ?_)
                    refine sf_istore (L' := [(0, .inl (.ref 71)), (1, .inl (.int a_heading)), (2, .inl (.int a_kind)), (3, .inl (.int a_fact)), (4, .inl (.int a_amount))]) rfl ?_
                    refine sf_aload rfl ?_
                    refine sf_iload rfl ?_
                    refine sf_f1_eq (fun h107 => absurd h107 (by omega)) (fun h107 => ?_)
                    refine sf_aload rfl ?_
                    refine sf_geti hI0 rfl rfl (fun v108 lv108 uv108 ev108 => ?_)
                    refine sf_iconst sf_c40 (fun z109 ez109 => ?_)
                    refine sf_f2_eq (fun h110 => ?_) (fun h110 => ?_)
                    · refine sf_iconst sf_c2 (fun z111 ez111 => ?_)
                      refine sf_puti hI0 hs0 rfl rfl (sf_bd _) rfl rfl rfl (fun w112 Iw112 sw112 kw112 uw112 => ?_)
                      have c113 := sf_mf kw112 (p := 71) (j := 5) rfl
                      clear kw112
                      refine sf_aload rfl ?_
                      refine sf_geti Iw112 rfl rfl (fun v114 lv114 uv114 ev114 => ?_)
                      rw [uw112] at ev114
                      refine sf_f1_le (fun h115 => absurd h115 (by omega)) (fun h115 => ?_)
                      refine sf_iconst sf_c0 (fun z116 ez116 => ?_)
                      refine sf_ireturn rfl rfl ?_
                      exact hR _ _ Iw112 sw112 (by omega) (by omega) (by rw [uw112]; rw [c113]; first | (refine Or.inl ⟨by omega, ?_⟩; omega) | (refine Or.inr (Or.inl ⟨by omega, ?_⟩); omega) | (refine Or.inr (Or.inr ⟨by omega, ?_⟩); omega))
                    · refine sf_iconst sf_c0 (fun z117 ez117 => ?_)
                      refine sf_puti hI0 hs0 rfl rfl (sf_bd _) rfl rfl rfl (fun w118 Iw118 sw118 kw118 uw118 => ?_)
                      have c119 := sf_mf kw118 (p := 71) (j := 5) rfl
                      clear kw118
                      refine sf_aload rfl ?_
                      refine sf_geti Iw118 rfl rfl (fun v120 lv120 uv120 ev120 => ?_)
                      rw [uw118] at ev120
                      refine sf_f1_le (fun h121 => ?_) (fun h121 => absurd h121 (by omega))
                      refine sf_aload rfl ?_
                      refine sf_getr Iw118 rfl rfl ?_
                      refine sf_aload rfl ?_
                      refine sf_geti Iw118 rfl rfl (fun v122 lv122 uv122 ev122 => ?_)
                      rw [c119] at ev122
                      refine sf_iload rfl ?_
                      refine sf_iast Iw118 sw118 rfl (by omega) (sf_bd _) rfl rfl (fun w123 Iw123 sw123 kw123 uw123 => ?_)
                      have c124 := sf_mf kw123 (p := 71) (j := 0) rfl
                      have c125 := sf_mf kw123 (p := 71) (j := 5) rfl
                      clear kw123 uw123
                      refine sf_aload rfl ?_
                      refine sf_getr Iw123 rfl rfl ?_
                      refine sf_aload rfl ?_
                      refine sf_geti Iw123 rfl rfl (fun v126 lv126 uv126 ev126 => ?_)
                      rw [c125, c119] at ev126
                      refine sf_iload rfl ?_
                      refine sf_iast Iw123 sw123 rfl (by omega) (sf_bd _) rfl rfl (fun w127 Iw127 sw127 kw127 uw127 => ?_)
                      have c128 := sf_mf kw127 (p := 71) (j := 0) rfl
                      have c129 := sf_mf kw127 (p := 71) (j := 5) rfl
                      clear kw127 uw127
                      refine sf_aload rfl ?_
                      refine sf_getr Iw127 rfl rfl ?_
                      refine sf_aload rfl ?_
                      refine sf_geti Iw127 rfl rfl (fun v130 lv130 uv130 ev130 => ?_)
                      rw [c129, c125, c119] at ev130
                      refine sf_iload rfl ?_
                      refine sf_iast Iw127 sw127 rfl (by omega) (by omega) rfl rfl (fun w131 Iw131 sw131 kw131 uw131 => ?_)
                      have c132 := sf_mf kw131 (p := 71) (j := 0) rfl
                      have c133 := sf_mf kw131 (p := 71) (j := 5) rfl
                      clear kw131 uw131
                      refine sf_aload rfl ?_
                      refine sf_getr Iw131 rfl rfl ?_
                      refine sf_aload rfl ?_
                      refine sf_geti Iw131 rfl rfl (fun v134 lv134 uv134 ev134 => ?_)
                      rw [c133, c129, c125, c119] at ev134
                      refine sf_iload rfl ?_
                      refine sf_iast Iw131 sw131 rfl (by omega) (sf_bd _) rfl rfl (fun w135 Iw135 sw135 kw135 uw135 => ?_)
                      have c136 := sf_mf kw135 (p := 71) (j := 0) rfl
                      have c137 := sf_mf kw135 (p := 71) (j := 5) rfl
                      clear kw135 uw135
                      refine sf_aload rfl ?_
                      refine sf_dup rfl ?_
                      refine sf_geti Iw135 rfl rfl (fun v138 lv138 uv138 ev138 => ?_)
                      rw [c137, c133, c129, c125, c119] at ev138
                      refine sf_iconst sf_c1 (fun z139 ez139 => ?_)
                      refine sf_iadd (by omega) (fun v140 ev140 => ?_)
                      refine sf_puti Iw135 sw135 rfl rfl (by omega) rfl rfl rfl (fun w141 Iw141 sw141 kw141 uw141 => ?_)
                      have c142 := sf_mf kw141 (p := 71) (j := 0) rfl
                      clear kw141
                      refine sf_aload rfl ?_
                      refine sf_geti Iw141 rfl rfl (fun v143 lv143 uv143 ev143 => ?_)
                      rw [uw141] at ev143
                      refine sf_iconst sf_c1 (fun z144 ez144 => ?_)
                      refine sf_isub (by omega) (fun v145 ev145 => ?_)
                      refine sf_ireturn rfl rfl ?_
                      exact hR _ _ Iw141 sw141 (by omega) (by omega) (by rw [c142, c136, c132, c128, c124, uw118]; rw [uw141]; first | (refine Or.inl ⟨by omega, ?_⟩; omega) | (refine Or.inr (Or.inl ⟨by omega, ?_⟩); omega) | (refine Or.inr (Or.inr ⟨by omega, ?_⟩); omega))
          · refine sf_iconst sf_c7 (fun z146 ez146 => ?_)
            refine sf_call3 rfl rfl rfl ?_
            refine sf_sp (L := [(0, .inl (.int a_fact)), (1, .inl (.int z52)), (2, .inl (.int z146))]) rfl rfl ?_
            refine sf_iload rfl ?_
            refine sf_iload rfl ?_
            refine sf_f2_lt (fun h147 => ?_) (fun h147 => ?_)
            · refine sf_iconst sf_c0 (fun z148 ez148 => ?_)
              refine sf_zreturn (by omega) rfl rfl ?_
              refine sf_f1_eq (fun h149 => ?_) (fun h149 => absurd h149 (by omega))
              refine sf_iconst sf_c0 (fun z150 ez150 => ?_)
              refine sf_istore (L' := [(0, .inl (.ref 71)), (1, .inl (.int a_heading)), (2, .inl (.int a_kind)), (3, .inl (.int a_fact)), (4, .inl (.int a_amount))]) rfl ?_
              refine sf_aload rfl ?_
              refine sf_iload rfl ?_
              refine sf_f1_eq (fun h151 => ?_) (fun h151 => absurd h151 (by omega))
              refine sf_iconst sf_c1 (fun z152 ez152 => ?_)
              refine sf_puti hI0 hs0 rfl rfl (sf_bd _) rfl rfl rfl (fun w153 Iw153 sw153 kw153 uw153 => ?_)
              have c154 := sf_mf kw153 (p := 71) (j := 5) rfl
              clear kw153
              refine sf_aload rfl ?_
              refine sf_geti Iw153 rfl rfl (fun v155 lv155 uv155 ev155 => ?_)
              rw [uw153] at ev155
              refine sf_f1_le (fun h156 => absurd h156 (by omega)) (fun h156 => ?_)
              refine sf_iconst sf_c0 (fun z157 ez157 => ?_)
              refine sf_ireturn rfl rfl ?_
              exact hR _ _ Iw153 sw153 (by omega) (by omega) (by rw [uw153]; rw [c154]; first | (refine Or.inl ⟨by omega, ?_⟩; omega) | (refine Or.inr (Or.inl ⟨by omega, ?_⟩); omega) | (refine Or.inr (Or.inr ⟨by omega, ?_⟩); omega))
            · refine sf_iload rfl ?_
              refine sf_iload rfl ?_
              refine sf_f2_gt (fun h158 => ?_) (fun h158 => ?_)
              · refine sf_iconst sf_c0 (fun z159 ez159 => ?_)
                refine sf_zreturn (by omega) rfl rfl ?_
                refine sf_f1_eq (fun h160 => ?_) (fun h160 => absurd h160 (by omega))
                refine sf_iconst sf_c0 (fun z161 ez161 => ?_)
                refine sf_istore (L' := [(0, .inl (.ref 71)), (1, .inl (.int a_heading)), (2, .inl (.int a_kind)), (3, .inl (.int a_fact)), (4, .inl (.int a_amount))]) rfl ?_
                refine sf_aload rfl ?_
                refine sf_iload rfl ?_
                refine sf_f1_eq (fun h162 => ?_) (fun h162 => absurd h162 (by omega))
                refine sf_iconst sf_c1 (fun z163 ez163 => ?_)
                refine sf_puti hI0 hs0 rfl rfl (sf_bd _) rfl rfl rfl (fun w164 Iw164 sw164 kw164 uw164 => ?_)
                have c165 := sf_mf kw164 (p := 71) (j := 5) rfl
                clear kw164
                refine sf_aload rfl ?_
                refine sf_geti Iw164 rfl rfl (fun v166 lv166 uv166 ev166 => ?_)
                rw [uw164] at ev166
                refine sf_f1_le (fun h167 => absurd h167 (by omega)) (fun h167 => ?_)
                refine sf_iconst sf_c0 (fun z168 ez168 => ?_)
                refine sf_ireturn rfl rfl ?_
                exact hR _ _ Iw164 sw164 (by omega) (by omega) (by rw [uw164]; rw [c165]; first | (refine Or.inl ⟨by omega, ?_⟩; omega) | (refine Or.inr (Or.inl ⟨by omega, ?_⟩); omega) | (refine Or.inr (Or.inr ⟨by omega, ?_⟩); omega))
              · refine sf_iconst sf_c1 (fun z169 ez169 => ?_)
                refine sf_zreturn (by omega) rfl rfl ?_
                refine sf_f1_eq (fun h170 => absurd h170 (by omega)) (fun h170 => ?_)
                refine sf_iload rfl ?_
                refine sf_iconst sf_c1 (fun z171 ez171 => ?_)
                refine sf_iconst sf_c1000 (fun z172 ez172 => ?_)
                refine sf_call3 rfl rfl rfl ?_
                refine sf_sp (L := [(0, .inl (.int a_amount)), (1, .inl (.int z171)), (2, .inl (.int z172))]) rfl rfl ?_
                refine sf_iload rfl ?_
                refine sf_iload rfl ?_
                refine sf_f2_lt (fun h173 => ?_) (fun h173 => ?_)
                · refine sf_iconst sf_c0 (fun z174 ez174 => ?_)
                  refine sf_zreturn (by omega) rfl rfl ?_
                  refine sf_f1_eq (fun h175 => ?_) (fun h175 => absurd h175 (by omega))
                  refine sf_iconst sf_c0 (fun z176 ez176 => ?_)
                  refine sf_istore (L' := [(0, .inl (.ref 71)), (1, .inl (.int a_heading)), (2, .inl (.int a_kind)), (3, .inl (.int a_fact)), (4, .inl (.int a_amount))]) rfl ?_
                  refine sf_aload rfl ?_
                  refine sf_iload rfl ?_
                  refine sf_f1_eq (fun h177 => ?_) (fun h177 => absurd h177 (by omega))
                  refine sf_iconst sf_c1 (fun z178 ez178 => ?_)
                  refine sf_puti hI0 hs0 rfl rfl (sf_bd _) rfl rfl rfl (fun w179 Iw179 sw179 kw179 uw179 => ?_)
                  have c180 := sf_mf kw179 (p := 71) (j := 5) rfl
                  clear kw179
                  refine sf_aload rfl ?_
                  refine sf_geti Iw179 rfl rfl (fun v181 lv181 uv181 ev181 => ?_)
                  rw [uw179] at ev181
                  refine sf_f1_le (fun h182 => absurd h182 (by omega)) (fun h182 => ?_)
                  refine sf_iconst sf_c0 (fun z183 ez183 => ?_)
                  refine sf_ireturn rfl rfl ?_
                  exact hR _ _ Iw179 sw179 (by omega) (by omega) (by rw [uw179]; rw [c180]; first | (refine Or.inl ⟨by omega, ?_⟩; omega) | (refine Or.inr (Or.inl ⟨by omega, ?_⟩); omega) | (refine Or.inr (Or.inr ⟨by omega, ?_⟩); omega))
                · refine sf_iload rfl ?_
                  refine sf_iload rfl ?_
                  refine sf_f2_gt (fun h184 => ?_) (fun h184 => ?_)
                  · refine sf_iconst sf_c0 (fun z185 ez185 => ?_)
                    refine sf_zreturn (by omega) rfl rfl ?_
                    refine sf_f1_eq (fun h186 => ?_) (fun h186 => absurd h186 (by omega))
                    refine sf_iconst sf_c0 (fun z187 ez187 => ?_)
                    refine sf_istore (L' := [(0, .inl (.ref 71)), (1, .inl (.int a_heading)), (2, .inl (.int a_kind)), (3, .inl (.int a_fact)), (4, .inl (.int a_amount))]) rfl ?_
                    refine sf_aload rfl ?_
                    refine sf_iload rfl ?_
                    refine sf_f1_eq (fun h188 => ?_) (fun h188 => absurd h188 (by omega))
                    refine sf_iconst sf_c1 (fun z189 ez189 => ?_)
                    refine sf_puti hI0 hs0 rfl rfl (sf_bd _) rfl rfl rfl (fun w190 Iw190 sw190 kw190 uw190 => ?_)
                    have c191 := sf_mf kw190 (p := 71) (j := 5) rfl
                    clear kw190
                    refine sf_aload rfl ?_
                    refine sf_geti Iw190 rfl rfl (fun v192 lv192 uv192 ev192 => ?_)
                    rw [uw190] at ev192
                    refine sf_f1_le (fun h193 => absurd h193 (by omega)) (fun h193 => ?_)
                    refine sf_iconst sf_c0 (fun z194 ez194 => ?_)
                    refine sf_ireturn rfl rfl ?_
                    exact hR _ _ Iw190 sw190 (by omega) (by omega) (by rw [uw190]; rw [c191]; first | (refine Or.inl ⟨by omega, ?_⟩; omega) | (refine Or.inr (Or.inl ⟨by omega, ?_⟩); omega) | (refine Or.inr (Or.inr ⟨by omega, ?_⟩); omega))
                  · refine sf_iconst sf_c1 (fun z195 ez195 => ?_)
                    refine sf_zreturn (by omega) rfl rfl ?_
                    refine sf_f1_eq (fun h196 => absurd h196 (by omega)) (fun h196 => ?_)
                    refine sf_iconst sf_c1 (fun z197 ez197 => ?_)
                    refine sf_istore (L' := [(0, .inl (.ref 71)), (1, .inl (.int a_heading)), (2, .inl (.int a_kind)), (3, .inl (.int a_fact)), (4, .inl (.int a_amount))]) rfl ?_
                    refine sf_aload rfl ?_
                    refine sf_iload rfl ?_
                    refine sf_f1_eq (fun h198 => absurd h198 (by omega)) (fun h198 => ?_)
                    refine sf_aload rfl ?_
                    refine sf_geti hI0 rfl rfl (fun v199 lv199 uv199 ev199 => ?_)
                    refine sf_iconst sf_c40 (fun z200 ez200 => ?_)
                    refine sf_f2_eq (fun h201 => ?_) (fun h201 => ?_)
                    · refine sf_iconst sf_c2 (fun z202 ez202 => ?_)
                      refine sf_puti hI0 hs0 rfl rfl (sf_bd _) rfl rfl rfl (fun w203 Iw203 sw203 kw203 uw203 => ?_)
                      have c204 := sf_mf kw203 (p := 71) (j := 5) rfl
                      clear kw203
                      refine sf_aload rfl ?_
                      refine sf_geti Iw203 rfl rfl (fun v205 lv205 uv205 ev205 => ?_)
                      rw [uw203] at ev205
                      refine sf_f1_le (fun h206 => absurd h206 (by omega)) (fun h206 => ?_)
                      refine sf_iconst sf_c0 (fun z207 ez207 => ?_)
                      refine sf_ireturn rfl rfl ?_
                      exact hR _ _ Iw203 sw203 (by omega) (by omega) (by rw [uw203]; rw [c204]; first | (refine Or.inl ⟨by omega, ?_⟩; omega) | (refine Or.inr (Or.inl ⟨by omega, ?_⟩); omega) | (refine Or.inr (Or.inr ⟨by omega, ?_⟩); omega))
                    · refine sf_iconst sf_c0 (fun z208 ez208 => ?_)
                      refine sf_puti hI0 hs0 rfl rfl (sf_bd _) rfl rfl rfl (fun w209 Iw209 sw209 kw209 uw209 => ?_)
                      have c210 := sf_mf kw209 (p := 71) (j := 5) rfl
                      clear kw209
                      refine sf_aload rfl ?_
                      refine sf_geti Iw209 rfl rfl (fun v211 lv211 uv211 ev211 => ?_)
                      rw [uw209] at ev211
                      refine sf_f1_le (fun h212 => ?_) (fun h212 => absurd h212 (by omega))
                      refine sf_aload rfl ?_
                      refine sf_getr Iw209 rfl rfl ?_
                      refine sf_aload rfl ?_
                      refine sf_geti Iw209 rfl rfl (fun v213 lv213 uv213 ev213 => ?_)
                      rw [c210] at ev213
                      refine sf_iload rfl ?_
                      refine sf_iast Iw209 sw209 rfl (by omega) (sf_bd _) rfl rfl (fun w214 Iw214 sw214 kw214 uw214 => ?_)
                      have c215 := sf_mf kw214 (p := 71) (j := 0) rfl
                      have c216 := sf_mf kw214 (p := 71) (j := 5) rfl
                      clear kw214 uw214
                      refine sf_aload rfl ?_
                      refine sf_getr Iw214 rfl rfl ?_
                      refine sf_aload rfl ?_
                      refine sf_geti Iw214 rfl rfl (fun v217 lv217 uv217 ev217 => ?_)
                      rw [c216, c210] at ev217
                      refine sf_iload rfl ?_
                      refine sf_iast Iw214 sw214 rfl (by omega) (sf_bd _) rfl rfl (fun w218 Iw218 sw218 kw218 uw218 => ?_)
                      have c219 := sf_mf kw218 (p := 71) (j := 0) rfl
                      have c220 := sf_mf kw218 (p := 71) (j := 5) rfl
                      clear kw218 uw218
                      refine sf_aload rfl ?_
                      refine sf_getr Iw218 rfl rfl ?_
                      refine sf_aload rfl ?_
                      refine sf_geti Iw218 rfl rfl (fun v221 lv221 uv221 ev221 => ?_)
                      rw [c220, c216, c210] at ev221
                      refine sf_iload rfl ?_
                      refine sf_iast Iw218 sw218 rfl (by omega) (by omega) rfl rfl (fun w222 Iw222 sw222 kw222 uw222 => ?_)
                      have c223 := sf_mf kw222 (p := 71) (j := 0) rfl
                      have c224 := sf_mf kw222 (p := 71) (j := 5) rfl
                      clear kw222 uw222
                      refine sf_aload rfl ?_
                      refine sf_getr Iw222 rfl rfl ?_
                      refine sf_aload rfl ?_
                      refine sf_geti Iw222 rfl rfl (fun v225 lv225 uv225 ev225 => ?_)
                      rw [c224, c220, c216, c210] at ev225
                      refine sf_iload rfl ?_
                      refine sf_iast Iw222 sw222 rfl (by omega) (sf_bd _) rfl rfl (fun w226 Iw226 sw226 kw226 uw226 => ?_)
                      have c227 := sf_mf kw226 (p := 71) (j := 0) rfl
                      have c228 := sf_mf kw226 (p := 71) (j := 5) rfl
                      clear kw226 uw226
                      refine sf_aload rfl ?_
                      refine sf_dup rfl ?_
                      refine sf_geti Iw226 rfl rfl (fun v229 lv229 uv229 ev229 => ?_)
                      rw [c228, c224, c220, c216, c210] at ev229
                      refine sf_iconst sf_c1 (fun z230 ez230 => ?_)
                      refine sf_iadd (by omega) (fun v231 ev231 => ?_)
                      refine sf_puti Iw226 sw226 rfl rfl (by omega) rfl rfl rfl (fun w232 Iw232 sw232 kw232 uw232 => ?_)
                      have c233 := sf_mf kw232 (p := 71) (j := 0) rfl
                      clear kw232
                      refine sf_aload rfl ?_
                      refine sf_geti Iw232 rfl rfl (fun v234 lv234 uv234 ev234 => ?_)
                      rw [uw232] at ev234
                      refine sf_iconst sf_c1 (fun z235 ez235 => ?_)
                      refine sf_isub (by omega) (fun v236 ev236 => ?_)
                      refine sf_ireturn rfl rfl ?_
                      exact hR _ _ Iw232 sw232 (by omega) (by omega) (by rw [c233, c227, c223, c219, c215, uw209]; rw [uw232]; first | (refine Or.inl ⟨by omega, ?_⟩; omega) | (refine Or.inr (Or.inl ⟨by omega, ?_⟩); omega) | (refine Or.inr (Or.inr ⟨by omega, ?_⟩); omega))
def sm_M_fact : List Nat := [71, 93, 8100]
set_option maxRecDepth 100000 in
set_option maxHeartbeats 4000000 in
theorem sc_M_fact {w0 : wq_W} (hI0 : sf_I w0) {rt : Option wq_V → wq_W → Prop} {xt : Nat → wq_W → Prop} {a_good : Int32} {a_fact : Int32} {a_amount : Int32}  (hR : ∀ (r : Int32) (w : wq_W), sf_I w → sf_m sm_M_fact w0 w → ((((sf_f w 71 0).toInt = 0 ∧ (0 ≤ a_good.toInt ∧ a_good.toInt ≤ 15 ∧ 0 ≤ a_fact.toInt ∧ a_fact.toInt ≤ 7 ∧ 0 ≤ a_amount.toInt ∧ a_amount.toInt ≤ 1000) ∧ r.toInt = (sf_a w0 93 (8 * a_good.toInt + a_fact.toInt).toNat).toInt) ∨ ((sf_f w 71 0).toInt = 1 ∧ ¬ (0 ≤ a_good.toInt ∧ a_good.toInt ≤ 15 ∧ 0 ≤ a_fact.toInt ∧ a_fact.toInt ≤ 7 ∧ 0 ≤ a_amount.toInt ∧ a_amount.toInt ≤ 1000)))) → ((((sf_f w 71 0).toInt ≠ 0 ∧ sf_a w 93 = sf_a w0 93) ∨ ((sf_f w 71 0).toInt = 0 ∧ sf_a w 93 = upd (sf_a w0 93) (8 * a_good.toInt + a_fact.toInt).toNat a_amount ∧ 0 ≤ a_good.toInt ∧ a_good.toInt ≤ 15 ∧ 0 ≤ a_fact.toInt ∧ a_fact.toInt ≤ 7 ∧ 0 ≤ a_amount.toInt ∧ a_amount.toInt ≤ 1000))) → rt (some (.inl (.int r))) w) : ks_M_fact [.inl (.ref 71), .inl (.int a_good), .inl (.int a_fact), .inl (.int a_amount)] w0 rt xt := by
  have hs0 : sf_m sm_M_fact w0 w0 := sf_m0
  refine sf_sp (L := [(0, .inl (.ref 71)), (1, .inl (.int a_good)), (2, .inl (.int a_fact)), (3, .inl (.int a_amount))]) rfl rfl ?_
  refine sf_aload rfl ?_
  refine sf_iload rfl ?_
  refine sf_iconst sf_c0 (fun z1 ez1 => ?_)
  refine sf_iconst sf_c15 (fun z2 ez2 => ?_)
  refine sf_call3 rfl rfl rfl ?_
  refine sf_sp (L := [(0, .inl (.int a_good)), (1, .inl (.int z1)), (2, .inl (.int z2))]) rfl rfl ?_
  refine sf_iload rfl ?_
  refine sf_iload rfl ?_
  refine sf_f2_lt (fun h3 => ?_) (fun h3 => ?_)
  · refine sf_iconst sf_c0 (fun z4 ez4 => ?_)
    refine sf_zreturn (by omega) rfl rfl ?_
    refine sf_f1_eq (fun h5 => ?_) (fun h5 => absurd h5 (by omega))
    refine sf_iconst sf_c1 (fun z6 ez6 => ?_)
    refine sf_puti hI0 hs0 rfl rfl (sf_bd _) rfl rfl rfl (fun w7 Iw7 sw7 kw7 uw7 => ?_)
    have c8 := sf_ma kw7 (p := 93) rfl
    clear kw7
    refine sf_aload rfl ?_
    refine sf_geti Iw7 rfl rfl (fun v9 lv9 uv9 ev9 => ?_)
    rw [uw7] at ev9
    refine sf_f1_le (fun h10 => absurd h10 (by omega)) (fun h10 => ?_)
    refine sf_iconst sf_c0 (fun z11 ez11 => ?_)
    refine sf_ireturn rfl rfl ?_
    exact hR _ _ Iw7 sw7 (by rw [uw7]; first | (refine Or.inl ⟨by omega, ?_⟩; omega) | (refine Or.inr ⟨by omega, ?_⟩; omega)) (by rw [uw7]; rw [c8]; first | exact Or.inl ⟨by omega, rfl⟩ | exact Or.inr ⟨by omega, gg, by omega⟩)
  · refine sf_iload rfl ?_
    refine sf_iload rfl ?_
    refine sf_f2_gt (fun h12 => ?_) (fun h12 => ?_)
    · refine sf_iconst sf_c0 (fun z13 ez13 => ?_)
      refine sf_zreturn (by omega) rfl rfl ?_
      refine sf_f1_eq (fun h14 => ?_) (fun h14 => absurd h14 (by omega))
      refine sf_iconst sf_c1 (fun z15 ez15 => ?_)
      refine sf_puti hI0 hs0 rfl rfl (sf_bd _) rfl rfl rfl (fun w16 Iw16 sw16 kw16 uw16 => ?_)
      have c17 := sf_ma kw16 (p := 93) rfl
      clear kw16
      refine sf_aload rfl ?_
      refine sf_geti Iw16 rfl rfl (fun v18 lv18 uv18 ev18 => ?_)
      rw [uw16] at ev18
      refine sf_f1_le (fun h19 => absurd h19 (by omega)) (fun h19 => ?_)
      refine sf_iconst sf_c0 (fun z20 ez20 => ?_)
      refine sf_ireturn rfl rfl ?_
      exact hR _ _ Iw16 sw16 (by rw [uw16]; first | (refine Or.inl ⟨by omega, ?_⟩; omega) | (refine Or.inr ⟨by omega, ?_⟩; omega)) (by rw [uw16]; rw [c17]; first | exact Or.inl ⟨by omega, rfl⟩ | exact Or.inr ⟨by omega, gg, by omega⟩)
    · refine sf_iconst sf_c1 (fun z21 ez21 => ?_)
      refine sf_zreturn (by omega) rfl rfl ?_
      refine sf_f1_eq (fun h22 => absurd h22 (by omega)) (fun h22 => ?_)
      refine sf_iload rfl ?_
      refine sf_iconst sf_c0 (fun z23 ez23 => ?_)
      refine sf_iconst sf_c7 (fun z24 ez24 => ?_)
      refine sf_call3 rfl rfl rfl ?_
      refine sf_sp (L := [(0, .inl (.int a_fact)), (1, .inl (.int z23)), (2, .inl (.int z24))]) rfl rfl ?_
      refine sf_iload rfl ?_
      refine sf_iload rfl ?_
      refine sf_f2_lt (fun h25 => ?_) (fun h25 => ?_)
      · refine sf_iconst sf_c0 (fun z26 ez26 => ?_)
        refine sf_zreturn (by omega) rfl rfl ?_
        refine sf_f1_eq (fun h27 => ?_) (fun h27 => absurd h27 (by omega))
        refine sf_iconst sf_c1 (fun z28 ez28 => ?_)
        refine sf_puti hI0 hs0 rfl rfl (sf_bd _) rfl rfl rfl (fun w29 Iw29 sw29 kw29 uw29 => ?_)
        have c30 := sf_ma kw29 (p := 93) rfl
        clear kw29
        refine sf_aload rfl ?_
        refine sf_geti Iw29 rfl rfl (fun v31 lv31 uv31 ev31 => ?_)
        rw [uw29] at ev31
        refine sf_f1_le (fun h32 => absurd h32 (by omega)) (fun h32 => ?_)
        refine sf_iconst sf_c0 (fun z33 ez33 => ?_)
        refine sf_ireturn rfl rfl ?_
        exact hR _ _ Iw29 sw29 (by rw [uw29]; first | (refine Or.inl ⟨by omega, ?_⟩; omega) | (refine Or.inr ⟨by omega, ?_⟩; omega)) (by rw [uw29]; rw [c30]; first | exact Or.inl ⟨by omega, rfl⟩ | exact Or.inr ⟨by omega, gg, by omega⟩)
      · refine sf_iload rfl ?_
        refine sf_iload rfl ?_
        refine sf_f2_gt (fun h34 => ?_) (fun h34 => ?_)
        · refine sf_iconst sf_c0 (fun z35 ez35 => ?_)
          refine sf_zreturn (by omega) rfl rfl ?_
          refine sf_f1_eq (fun h36 => ?_) (fun h36 => absurd h36 (by omega))
          refine sf_iconst sf_c1 (fun z37 ez37 => ?_)
          refine sf_puti hI0 hs0 rfl rfl (sf_bd _) rfl rfl rfl (fun w38 Iw38 sw38 kw38 uw38 => ?_)
          have c39 := sf_ma kw38 (p := 93) rfl
          clear kw38
          refine sf_aload rfl ?_
          refine sf_geti Iw38 rfl rfl (fun v40 lv40 uv40 ev40 => ?_)
          rw [uw38] at ev40
          refine sf_f1_le (fun h41 => absurd h41 (by omega)) (fun h41 => ?_)
          refine sf_iconst sf_c0 (fun z42 ez42 => ?_)
          refine sf_ireturn rfl rfl ?_
          exact hR _ _ Iw38 sw38 (by rw [uw38]; first | (refine Or.inl ⟨by omega, ?_⟩; omega) | (refine Or.inr ⟨by omega, ?_⟩; omega)) (by rw [uw38]; rw [c39]; first | exact Or.inl ⟨by omega, rfl⟩ | exact Or.inr ⟨by omega, gg, by omega⟩)
        · refine sf_iconst sf_c1 (fun z43 ez43 => ?_)
          refine sf_zreturn (by omega) rfl rfl ?_
          refine sf_f1_eq (fun h44 => absurd h44 (by omega)) (fun h44 => ?_)
          refine sf_iload rfl ?_
          refine sf_iconst sf_c0 (fun z45 ez45 => ?_)
          refine sf_iconst sf_c1000 (fun z46 ez46 => ?_)
          refine sf_call3 rfl rfl rfl ?_
          refine sf_sp (L := [(0, .inl (.int a_amount)), (1, .inl (.int z45)), (2, .inl (.int z46))]) rfl rfl ?_
          refine sf_iload rfl ?_
          refine sf_iload rfl ?_
          refine sf_f2_lt (fun h47 => ?_) (fun h47 => ?_)
          · refine sf_iconst sf_c0 (fun z48 ez48 => ?_)
            refine sf_zreturn (by omega) rfl rfl ?_
            refine sf_f1_eq (fun h49 => ?_) (fun h49 => absurd h49 (by omega))
            refine sf_iconst sf_c1 (fun z50 ez50 => ?_)
            refine sf_puti hI0 hs0 rfl rfl (sf_bd _) rfl rfl rfl (fun w51 Iw51 sw51 kw51 uw51 => ?_)
            have c52 := sf_ma kw51 (p := 93) rfl
            clear kw51
            refine sf_aload rfl ?_
            refine sf_geti Iw51 rfl rfl (fun v53 lv53 uv53 ev53 => ?_)
            rw [uw51] at ev53
            refine sf_f1_le (fun h54 => absurd h54 (by omega)) (fun h54 => ?_)
            refine sf_iconst sf_c0 (fun z55 ez55 => ?_)
            refine sf_ireturn rfl rfl ?_
            exact hR _ _ Iw51 sw51 (by rw [uw51]; first | (refine Or.inl ⟨by omega, ?_⟩; omega) | (refine Or.inr ⟨by omega, ?_⟩; omega)) (by rw [uw51]; rw [c52]; first | exact Or.inl ⟨by omega, rfl⟩ | exact Or.inr ⟨by omega, gg, by omega⟩)
          · refine sf_iload rfl ?_
            refine sf_iload rfl ?_
            refine sf_f2_gt (fun h56 => ?_) (fun h56 => ?_)
            · refine sf_iconst sf_c0 (fun z57 ez57 => ?_)
              refine sf_zreturn (by omega) rfl rfl ?_
              refine sf_f1_eq (fun h58 => ?_) (fun h58 => absurd h58 (by omega))
              refine sf_iconst sf_c1 (fun z59 ez59 => ?_)
              refine sf_puti hI0 hs0 rfl rfl (sf_bd _) rfl rfl rfl (fun w60 Iw60 sw60 kw60 uw60 => ?_)
              have c61 := sf_ma kw60 (p := 93) rfl
              clear kw60
              refine sf_aload rfl ?_
              refine sf_geti Iw60 rfl rfl (fun v62 lv62 uv62 ev62 => ?_)
              rw [uw60] at ev62
              refine sf_f1_le (fun h63 => absurd h63 (by omega)) (fun h63 => ?_)
              refine sf_iconst sf_c0 (fun z64 ez64 => ?_)
              refine sf_ireturn rfl rfl ?_
              exact hR _ _ Iw60 sw60 (by rw [uw60]; first | (refine Or.inl ⟨by omega, ?_⟩; omega) | (refine Or.inr ⟨by omega, ?_⟩; omega)) (by rw [uw60]; rw [c61]; first | exact Or.inl ⟨by omega, rfl⟩ | exact Or.inr ⟨by omega, gg, by omega⟩)
            · refine sf_iconst sf_c1 (fun z65 ez65 => ?_)
              refine sf_zreturn (by omega) rfl rfl ?_
              refine sf_f1_eq (fun h66 => absurd h66 (by omega)) (fun h66 => ?_)
              refine sf_iconst sf_c0 (fun z67 ez67 => ?_)
              refine sf_puti hI0 hs0 rfl rfl (sf_bd _) rfl rfl rfl (fun w68 Iw68 sw68 kw68 uw68 => ?_)
              have c69 := sf_ma kw68 (p := 93) rfl
              clear kw68
              refine sf_aload rfl ?_
              refine sf_geti Iw68 rfl rfl (fun v70 lv70 uv70 ev70 => ?_)
              rw [uw68] at ev70
              refine sf_f1_le (fun h71 => ?_) (fun h71 => absurd h71 (by omega))
              refine sf_aload rfl ?_
              refine sf_getr Iw68 rfl rfl ?_
              refine sf_iconst sf_c8 (fun z72 ez72 => ?_)
              refine sf_iload rfl ?_
              refine sf_imull (n := 8) (by omega) (by omega) (fun v73 ev73 => ?_)
              refine sf_iload rfl ?_
              refine sf_iadd (by omega) (fun v74 ev74 => ?_)
              refine sf_iald Iw68 rfl (by omega) (fun v75 lv75 uv75 ev75 => ?_)
              clear lv75 uv75
              rw [c69] at ev75
              have gj : v74.toInt = 8 * a_good.toInt + a_fact.toInt := by omega
              rw [gj] at ev75
              refine sf_istore (L' := [(0, .inl (.ref 71)), (1, .inl (.int a_good)), (2, .inl (.int a_fact)), (3, .inl (.int a_amount))]) rfl ?_
              refine sf_aload rfl ?_
              refine sf_getr Iw68 rfl rfl ?_
              refine sf_iconst sf_c8 (fun z76 ez76 => ?_)
              refine sf_iload rfl ?_
              refine sf_imull (n := 8) (by omega) (by omega) (fun v77 ev77 => ?_)
              refine sf_iload rfl ?_
              refine sf_iadd (by omega) (fun v78 ev78 => ?_)
              refine sf_iload rfl ?_
              have g93 := c69
              refine sf_iast Iw68 sw68 rfl (by omega) (sf_bd _) rfl rfl (fun w79 Iw79 sw79 kw79 uw79 => ?_)
              have c80 := sf_mf kw79 (p := 71) (j := 0) rfl
              clear kw79
              have gg := uw79
              have gi : v78.toInt = 8 * a_good.toInt + a_fact.toInt := by omega
              rw [gi, g93] at gg
              refine sf_iload rfl ?_
              refine sf_ireturn rfl rfl ?_
              exact hR _ _ Iw79 sw79 (by rw [c80, uw68]; first | (refine Or.inl ⟨by omega, ?_⟩; omega) | (refine Or.inr ⟨by omega, ?_⟩; omega)) (by rw [c80, uw68]; first | exact Or.inl ⟨by omega, rfl⟩ | exact Or.inr ⟨by omega, gg, by omega⟩)
def sm_M_classify : List Nat := [71, 8100]
set_option maxRecDepth 100000 in
set_option maxHeartbeats 4000000 in
theorem sc_M_classify {w0 : wq_W} (hI0 : sf_I w0) {rt : Option wq_V → wq_W → Prop} {xt : Nat → wq_W → Prop} {a_good : Int32}  (hR : ∀ (r : Int32) (w : wq_W), sf_I w → sf_m sm_M_classify w0 w → (-1) ≤ r.toInt → r.toInt ≤ 23 → rt (some (.inl (.int r))) w) : ks_M_classify [.inl (.ref 71), .inl (.int a_good)] w0 rt xt := by
  have hs0 : sf_m sm_M_classify w0 w0 := sf_m0
  refine sf_sp (L := [(0, .inl (.ref 71)), (1, .inl (.int a_good))]) rfl rfl ?_
  refine sf_aload rfl ?_
  refine sf_iload rfl ?_
  refine sf_iconst sf_c0 (fun z1 ez1 => ?_)
  refine sf_iconst sf_c15 (fun z2 ez2 => ?_)
  refine sf_call3 rfl rfl rfl ?_
  refine sf_sp (L := [(0, .inl (.int a_good)), (1, .inl (.int z1)), (2, .inl (.int z2))]) rfl rfl ?_
  refine sf_iload rfl ?_
  refine sf_iload rfl ?_
  refine sf_f2_lt (fun h3 => ?_) (fun h3 => ?_)
  · refine sf_iconst sf_c0 (fun z4 ez4 => ?_)
    refine sf_zreturn (by omega) rfl rfl ?_
    refine sf_f1_eq (fun h5 => ?_) (fun h5 => absurd h5 (by omega))
    refine sf_iconst sf_c1 (fun z6 ez6 => ?_)
    refine sf_puti hI0 hs0 rfl rfl (sf_bd _) rfl rfl rfl (fun w7 Iw7 sw7 kw7 uw7 => ?_)
    clear kw7
    refine sf_aload rfl ?_
    refine sf_geti Iw7 rfl rfl (fun v8 lv8 uv8 ev8 => ?_)
    rw [uw7] at ev8
    refine sf_f1_le (fun h9 => absurd h9 (by omega)) (fun h9 => ?_)
    refine sf_iconst sf_c0 (fun z10 ez10 => ?_)
    refine sf_ireturn rfl rfl ?_
    exact hR _ _ Iw7 sw7 (by omega) (by omega) 
  · refine sf_iload rfl ?_
    refine sf_iload rfl ?_
    refine sf_f2_gt (fun h11 => ?_) (fun h11 => ?_)
    · refine sf_iconst sf_c0 (fun z12 ez12 => ?_)
      refine sf_zreturn (by omega) rfl rfl ?_
      refine sf_f1_eq (fun h13 => ?_) (fun h13 => absurd h13 (by omega))
      refine sf_iconst sf_c1 (fun z14 ez14 => ?_)
      refine sf_puti hI0 hs0 rfl rfl (sf_bd _) rfl rfl rfl (fun w15 Iw15 sw15 kw15 uw15 => ?_)
      clear kw15
      refine sf_aload rfl ?_
      refine sf_geti Iw15 rfl rfl (fun v16 lv16 uv16 ev16 => ?_)
      rw [uw15] at ev16
      refine sf_f1_le (fun h17 => absurd h17 (by omega)) (fun h17 => ?_)
      refine sf_iconst sf_c0 (fun z18 ez18 => ?_)
      refine sf_ireturn rfl rfl ?_
      exact hR _ _ Iw15 sw15 (by omega) (by omega) 
    · refine sf_iconst sf_c1 (fun z19 ez19 => ?_)
      refine sf_zreturn (by omega) rfl rfl ?_
      refine sf_f1_eq (fun h20 => absurd h20 (by omega)) (fun h20 => ?_)
      refine sf_iconst sf_c0 (fun z21 ez21 => ?_)
      refine sf_puti hI0 hs0 rfl rfl (sf_bd _) rfl rfl rfl (fun w22 Iw22 sw22 kw22 uw22 => ?_)
      clear kw22
      refine sf_aload rfl ?_
      refine sf_geti Iw22 rfl rfl (fun v23 lv23 uv23 ev23 => ?_)
      rw [uw22] at ev23
      refine sf_f1_le (fun h24 => ?_) (fun h24 => absurd h24 (by omega))
      refine sf_aload rfl ?_
      refine sf_iload rfl ?_
      refine sf_call2 rfl rfl rfl ?_
      refine sf_rv Iw22 rfl ?_
      refine sc_M_classOf Iw22 (by omega) (by omega) (fun v25 lv25 uv25 q26_0 => ?_)
      rw [sf_mf sw22 (p := 71) (j := 1) rfl] at q26_0
      refine sf_ireturn rfl rfl ?_
      exact hR _ _ Iw22 sw22 (by omega) (by omega) 
def sm_M_rate : List Nat := [71, 79, 80, 81, 82, 83, 84, 85, 8100, 8110]
set_option maxRecDepth 100000 in
set_option maxHeartbeats 4000000 in
theorem sc_M_rate {w0 : wq_W} (hI0 : sf_I w0) {rt : Option wq_V → wq_W → Prop} {xt : Nat → wq_W → Prop} {a_heading : Int32} {a_land : Int32} {a_kind : Int32} {a_a : Int32} {a_b : Int32} {a_from : Int32} {a_to : Int32}  (hR : ∀ (r : Int32) (w : wq_W), sf_I w → sf_m sm_M_rate w0 w → 0 ≤ r.toInt → r.toInt ≤ 40 → ((((sf_f w 71 0).toInt = 0 ∧ (0 ≤ a_heading.toInt ∧ a_heading.toInt < (sf_f w0 71 1).toInt ∧ -1 ≤ a_land.toInt ∧ a_land.toInt ≤ 7 ∧ 0 ≤ a_kind.toInt ∧ a_kind.toInt ≤ 3 ∧ 0 ≤ a_a.toInt ∧ a_a.toInt ≤ 10000 ∧ 0 ≤ a_b.toInt ∧ a_b.toInt ≤ 10000 ∧ 0 ≤ a_from.toInt ∧ a_from.toInt ≤ a_to.toInt ∧ a_to.toInt ≤ 9999) ∧ ((sf_f w0 71 10).toInt < 40) ∧ (sf_f w 71 10).toInt = (sf_f w0 71 10).toInt + 1 ∧ r.toInt = (sf_f w0 71 10).toInt) ∨ ((sf_f w 71 0).toInt = 1 ∧ ¬ (0 ≤ a_heading.toInt ∧ a_heading.toInt < (sf_f w0 71 1).toInt ∧ -1 ≤ a_land.toInt ∧ a_land.toInt ≤ 7 ∧ 0 ≤ a_kind.toInt ∧ a_kind.toInt ≤ 3 ∧ 0 ≤ a_a.toInt ∧ a_a.toInt ≤ 10000 ∧ 0 ≤ a_b.toInt ∧ a_b.toInt ≤ 10000 ∧ 0 ≤ a_from.toInt ∧ a_from.toInt ≤ a_to.toInt ∧ a_to.toInt ≤ 9999) ∧ (sf_f w 71 10).toInt = (sf_f w0 71 10).toInt) ∨ ((sf_f w 71 0).toInt = 2 ∧ (0 ≤ a_heading.toInt ∧ a_heading.toInt < (sf_f w0 71 1).toInt ∧ -1 ≤ a_land.toInt ∧ a_land.toInt ≤ 7 ∧ 0 ≤ a_kind.toInt ∧ a_kind.toInt ≤ 3 ∧ 0 ≤ a_a.toInt ∧ a_a.toInt ≤ 10000 ∧ 0 ≤ a_b.toInt ∧ a_b.toInt ≤ 10000 ∧ 0 ≤ a_from.toInt ∧ a_from.toInt ≤ a_to.toInt ∧ a_to.toInt ≤ 9999) ∧ ¬ ((sf_f w0 71 10).toInt < 40) ∧ (sf_f w 71 10).toInt = (sf_f w0 71 10).toInt))) → rt (some (.inl (.int r))) w) : ks_M_rate [.inl (.ref 71), .inl (.int a_heading), .inl (.int a_land), .inl (.int a_kind), .inl (.int a_a), .inl (.int a_b), .inl (.int a_from), .inl (.int a_to)] w0 rt xt := by
  have hs0 : sf_m sm_M_rate w0 w0 := sf_m0
  refine sf_sp (L := [(0, .inl (.ref 71)), (1, .inl (.int a_heading)), (2, .inl (.int a_land)), (3, .inl (.int a_kind)), (4, .inl (.int a_a)), (5, .inl (.int a_b)), (6, .inl (.int a_from)), (7, .inl (.int a_to))]) rfl rfl ?_
  refine sf_aload rfl ?_
  refine sf_iload rfl ?_
  refine sf_call2 rfl rfl rfl ?_
  refine sf_rv hI0 rfl ?_
  refine sf_sp (L := [(0, .inl (.ref 71)), (1, .inl (.int a_heading))]) rfl rfl ?_
  refine sf_iload rfl ?_
  refine sf_f1_lt (fun h1 => ?_) (fun h1 => ?_)
  · refine sf_iconst sf_c0 (fun z2 ez2 => ?_)
    refine sf_zreturn (by omega) rfl rfl ?_
    refine sf_f1_eq (fun h3 => ?_) (fun h3 => absurd h3 (by omega))
    refine sf_iconst sf_c0 (fun z4 ez4 => ?_)
    refine sf_istore (L' := [(0, .inl (.ref 71)), (1, .inl (.int a_heading)), (2, .inl (.int a_land)), (3, .inl (.int a_kind)), (4, .inl (.int a_a)), (5, .inl (.int a_b)), (6, .inl (.int a_from)), (7, .inl (.int a_to))]) rfl ?_
    refine sf_aload rfl ?_
    refine sf_iload rfl ?_
    refine sf_f1_eq (fun h5 => ?_) (fun h5 => absurd h5 (by omega))
    refine sf_iconst sf_c1 (fun z6 ez6 => ?_)
    refine sf_puti hI0 hs0 rfl rfl (sf_bd _) rfl rfl rfl (fun w7 Iw7 sw7 kw7 uw7 => ?_)
    have c8 := sf_mf kw7 (p := 71) (j := 10) rfl
    clear kw7
    refine sf_aload rfl ?_
    refine sf_geti Iw7 rfl rfl (fun v9 lv9 uv9 ev9 => ?_)
    rw [uw7] at ev9
    refine sf_f1_le (fun h10 => absurd h10 (by omega)) (fun h10 => ?_)
    refine sf_iconst sf_c0 (fun z11 ez11 => ?_)
    refine sf_ireturn rfl rfl ?_
    exact hR _ _ Iw7 sw7 (by omega) (by omega) (by rw [uw7]; rw [c8]; first | (refine Or.inl ⟨by omega, ?_⟩; omega) | (refine Or.inr (Or.inl ⟨by omega, ?_⟩); omega) | (refine Or.inr (Or.inr ⟨by omega, ?_⟩); omega))
  · refine sf_iload rfl ?_
    refine sf_aload rfl ?_
    refine sf_geti hI0 rfl rfl (fun v12 lv12 uv12 ev12 => ?_)
    refine sf_f2_ge (fun h13 => ?_) (fun h13 => ?_)
    · refine sf_iconst sf_c0 (fun z14 ez14 => ?_)
      refine sf_zreturn (by omega) rfl rfl ?_
      refine sf_f1_eq (fun h15 => ?_) (fun h15 => absurd h15 (by omega))
      refine sf_iconst sf_c0 (fun z16 ez16 => ?_)
      refine sf_istore (L' := [(0, .inl (.ref 71)), (1, .inl (.int a_heading)), (2, .inl (.int a_land)), (3, .inl (.int a_kind)), (4, .inl (.int a_a)), (5, .inl (.int a_b)), (6, .inl (.int a_from)), (7, .inl (.int a_to))]) rfl ?_
      refine sf_aload rfl ?_
      refine sf_iload rfl ?_
      refine sf_f1_eq (fun h17 => ?_) (fun h17 => absurd h17 (by omega))
      refine sf_iconst sf_c1 (fun z18 ez18 => ?_)
      refine sf_puti hI0 hs0 rfl rfl (sf_bd _) rfl rfl rfl (fun w19 Iw19 sw19 kw19 uw19 => ?_)
      have c20 := sf_mf kw19 (p := 71) (j := 10) rfl
      clear kw19
      refine sf_aload rfl ?_
      refine sf_geti Iw19 rfl rfl (fun v21 lv21 uv21 ev21 => ?_)
      rw [uw19] at ev21
      refine sf_f1_le (fun h22 => absurd h22 (by omega)) (fun h22 => ?_)
      refine sf_iconst sf_c0 (fun z23 ez23 => ?_)
      refine sf_ireturn rfl rfl ?_
      exact hR _ _ Iw19 sw19 (by omega) (by omega) (by rw [uw19]; rw [c20]; first | (refine Or.inl ⟨by omega, ?_⟩; omega) | (refine Or.inr (Or.inl ⟨by omega, ?_⟩); omega) | (refine Or.inr (Or.inr ⟨by omega, ?_⟩); omega))
    · refine sf_iconst sf_c1 (fun z24 ez24 => ?_)
      refine sf_zreturn (by omega) rfl rfl ?_
      refine sf_f1_eq (fun h25 => absurd h25 (by omega)) (fun h25 => ?_)
      refine sf_iload rfl ?_
      refine sf_iconst sf_cm1 (fun z26 ez26 => ?_)
      refine sf_iconst sf_c7 (fun z27 ez27 => ?_)
      refine sf_call3 rfl rfl rfl ?_
      refine sf_sp (L := [(0, .inl (.int a_land)), (1, .inl (.int z26)), (2, .inl (.int z27))]) rfl rfl ?_
      refine sf_iload rfl ?_
      refine sf_iload rfl ?_
      refine sf_f2_lt (fun h28 => ?_) (fun h28 => ?_)
      · refine sf_iconst sf_c0 (fun z29 ez29 => ?_)
        refine sf_zreturn (by omega) rfl rfl ?_
        refine sf_f1_eq (fun h30 => ?_) (fun h30 => absurd h30 (by omega))
        refine sf_iconst sf_c0 (fun z31 ez31 => ?_)
        refine sf_istore (L' := [(0, .inl (.ref 71)), (1, .inl (.int a_heading)), (2, .inl (.int a_land)), (3, .inl (.int a_kind)), (4, .inl (.int a_a)), (5, .inl (.int a_b)), (6, .inl (.int a_from)), (7, .inl (.int a_to))]) rfl ?_
        refine sf_aload rfl ?_
        refine sf_iload rfl ?_
        refine sf_f1_eq (fun h32 => ?_) (fun h32 => absurd h32 (by omega))
        refine sf_iconst sf_c1 (fun z33 ez33 => ?_)
        refine sf_puti hI0 hs0 rfl rfl (sf_bd _) rfl rfl rfl (fun w34 Iw34 sw34 kw34 uw34 => ?_)
        have c35 := sf_mf kw34 (p := 71) (j := 10) rfl
        clear kw34
        refine sf_aload rfl ?_
        refine sf_geti Iw34 rfl rfl (fun v36 lv36 uv36 ev36 => ?_)
        rw [uw34] at ev36
        refine sf_f1_le (fun h37 => absurd h37 (by omega)) (fun h37 => ?_)
        refine sf_iconst sf_c0 (fun z38 ez38 => ?_)
        refine sf_ireturn rfl rfl ?_
        exact hR _ _ Iw34 sw34 (by omega) (by omega) (by rw [uw34]; rw [c35]; first | (refine Or.inl ⟨by omega, ?_⟩; omega) | (refine Or.inr (Or.inl ⟨by omega, ?_⟩); omega) | (refine Or.inr (Or.inr ⟨by omega, ?_⟩); omega))
      · refine sf_iload rfl ?_
        refine sf_iload rfl ?_
        refine sf_f2_gt (fun h39 => ?_) (fun h39 => ?_)
        · refine sf_iconst sf_c0 (fun z40 ez40 => ?_)
          refine sf_zreturn (by omega) rfl rfl ?_
          refine sf_f1_eq (fun h41 => ?_) (fun h41 => absurd h41 (by omega))
          refine sf_iconst sf_c0 (fun z42 ez42 => ?_)
          refine sf_istore (L' := [(0, .inl (.ref 71)), (1, .inl (.int a_heading)), (2, .inl (.int a_land)), (3, .inl (.int a_kind)), (4, .inl (.int a_a)), (5, .inl (.int a_b)), (6, .inl (.int a_from)), (7, .inl (.int a_to))]) rfl ?_
          refine sf_aload rfl ?_
          refine sf_iload rfl ?_
          refine sf_f1_eq (fun h43 => ?_) (fun h43 => absurd h43 (by omega))
          refine sf_iconst sf_c1 (fun z44 ez44 => ?_)
          refine sf_puti hI0 hs0 rfl rfl (sf_bd _) rfl rfl rfl (fun w45 Iw45 sw45 kw45 uw45 => ?_)
          have c46 := sf_mf kw45 (p := 71) (j := 10) rfl
          clear kw45
          refine sf_aload rfl ?_
          refine sf_geti Iw45 rfl rfl (fun v47 lv47 uv47 ev47 => ?_)
          rw [uw45] at ev47
          refine sf_f1_le (fun h48 => absurd h48 (by omega)) (fun h48 => ?_)
          refine sf_iconst sf_c0 (fun z49 ez49 => ?_)
          refine sf_ireturn rfl rfl ?_
          exact hR _ _ Iw45 sw45 (by omega) (by omega) (by rw [uw45]; rw [c46]; first | (refine Or.inl ⟨by omega, ?_⟩; omega) | (refine Or.inr (Or.inl ⟨by omega, ?_⟩); omega) | (refine Or.inr (Or.inr ⟨by omega, ?_⟩); omega))
        · refine sf_iconst sf_c1 (fun z50 ez50 => ?_)
          refine sf_zreturn (by omega) rfl rfl ?_
          refine sf_f1_eq (fun h51 => absurd h51 (by omega)) (fun h51 => ?_)
          refine sf_iload rfl ?_
          refine sf_iconst sf_c0 (fun z52 ez52 => ?_)
          refine sf_iconst sf_c3 (fun z53 ez53 => ?_)
          refine sf_call3 rfl rfl rfl ?_
          refine sf_sp (L := [(0, .inl (.int a_kind)), (1, .inl (.int z52)), (2, .inl (.int z53))]) rfl rfl ?_
          refine sf_iload rfl ?_
          refine sf_iload rfl ?_
          refine sf_f2_lt (fun h54 => ?_) (fun h54 => ?_)
          · refine sf_iconst sf_c0 (fun z55 ez55 => ?_)
            refine sf_zreturn (by omega) rfl rfl ?_
            refine sf_f1_eq (fun h56 => ?_) (fun h56 => absurd h56 (by omega))
            refine sf_iconst sf_c0 (fun z57 ez57 => ?_)
            refine sf_istore (L' := [(0, .inl (.ref 71)), (1, .inl (.int a_heading)), (2, .inl (.int a_land)), (3, .inl (.int a_kind)), (4, .inl (.int a_a)), (5, .inl (.int a_b)), (6, .inl (.int a_from)), (7, .inl (.int a_to))]) rfl ?_
            refine sf_aload rfl ?_
            refine sf_iload rfl ?_
            refine sf_f1_eq (fun h58 => ?_) (fun h58 => absurd h58 (by omega))
            refine sf_iconst sf_c1 (fun z59 ez59 => ?_)
            refine sf_puti hI0 hs0 rfl rfl (sf_bd _) rfl rfl rfl (fun w60 Iw60 sw60 kw60 uw60 => ?_)
            have c61 := sf_mf kw60 (p := 71) (j := 10) rfl
            clear kw60
            refine sf_aload rfl ?_
            refine sf_geti Iw60 rfl rfl (fun v62 lv62 uv62 ev62 => ?_)
            rw [uw60] at ev62
            refine sf_f1_le (fun h63 => absurd h63 (by omega)) (fun h63 => ?_)
            refine sf_iconst sf_c0 (fun z64 ez64 => ?_)
            refine sf_ireturn rfl rfl ?_
            exact hR _ _ Iw60 sw60 (by omega) (by omega) (by rw [uw60]; rw [c61]; first | (refine Or.inl ⟨by omega, ?_⟩; omega) | (refine Or.inr (Or.inl ⟨by omega, ?_⟩); omega) | (refine Or.inr (Or.inr ⟨by omega, ?_⟩); omega))
          · refine sf_iload rfl ?_
            refine sf_iload rfl ?_
            refine sf_f2_gt (fun h65 => ?_) (fun h65 => ?_)
            · refine sf_iconst sf_c0 (fun z66 ez66 => ?_)
              refine sf_zreturn (by omega) rfl rfl ?_
              refine sf_f1_eq (fun h67 => ?_) (fun h67 => absurd h67 (by omega))
              refine sf_iconst sf_c0 (fun z68 ez68 => ?_)
              refine sf_istore (L' := [(0, .inl (.ref 71)), (1, .inl (.int a_heading)), (2, .inl (.int a_land)), (3, .inl (.int a_kind)), (4, .inl (.int a_a)), (5, .inl (.int a_b)), (6, .inl (.int a_from)), (7, .inl (.int a_to))]) rfl ?_
              refine sf_aload rfl ?_
              refine sf_iload rfl ?_
              refine sf_f1_eq (fun h69 => ?_) (fun h69 => absurd h69 (by omega))
              refine sf_iconst sf_c1 (fun z70 ez70 => ?_)
              refine sf_puti hI0 hs0 rfl rfl (sf_bd _) rfl rfl rfl (fun w71 Iw71 sw71 kw71 uw71 => ?_)
              have c72 := sf_mf kw71 (p := 71) (j := 10) rfl
              clear kw71
              refine sf_aload rfl ?_
              refine sf_geti Iw71 rfl rfl (fun v73 lv73 uv73 ev73 => ?_)
              rw [uw71] at ev73
              refine sf_f1_le (fun h74 => absurd h74 (by omega)) (fun h74 => ?_)
              refine sf_iconst sf_c0 (fun z75 ez75 => ?_)
              refine sf_ireturn rfl rfl ?_
              exact hR _ _ Iw71 sw71 (by omega) (by omega) (by rw [uw71]; rw [c72]; first | (refine Or.inl ⟨by omega, ?_⟩; omega) | (refine Or.inr (Or.inl ⟨by omega, ?_⟩); omega) | (refine Or.inr (Or.inr ⟨by omega, ?_⟩); omega))
            · refine sf_iconst sf_c1 (fun z76 ez76 => ?_)
              refine sf_zreturn (by omega) rfl rfl ?_
              refine sf_f1_eq (fun h77 => absurd h77 (by omega)) (fun h77 => ?_)
              refine sf_iload rfl ?_
              refine sf_iconst sf_c0 (fun z78 ez78 => ?_)
              refine sf_iconst sf_c10000 (fun z79 ez79 => ?_)
              refine sf_call3 rfl rfl rfl ?_
              refine sf_sp (L := [(0, .inl (.int a_a)), (1, .inl (.int z78)), (2, .inl (.int z79))]) rfl rfl ?_
              refine sf_iload rfl ?_
              refine sf_iload rfl ?_
              refine sf_f2_lt (fun h80 => ?_) (fun h80 => ?_)
              · refine sf_iconst sf_c0 (fun z81 ez81 => ?_)
                refine sf_zreturn (by omega) rfl rfl ?_
                refine sf_f1_eq (fun h82 => ?_) (fun h82 => absurd h82 (by omega))
                refine sf_iconst sf_c0 (fun z83 ez83 => ?_)
                refine sf_istore (L' := [(0, .inl (.ref 71)), (1, .inl (.int a_heading)), (2, .inl (.int a_land)), (3, .inl (.int a_kind)), (4, .inl (.int a_a)), (5, .inl (.int a_b)), (6, .inl (.int a_from)), (7, .inl (.int a_to))]) rfl ?_
                refine sf_aload rfl ?_
                refine sf_iload rfl ?_
                refine sf_f1_eq (fun h84 => ?_) (fun h84 => absurd h84 (by omega))
                refine sf_iconst sf_c1 (fun z85 ez85 => ?_)
                refine sf_puti hI0 hs0 rfl rfl (sf_bd _) rfl rfl rfl (fun w86 Iw86 sw86 kw86 uw86 => ?_)
                have c87 := sf_mf kw86 (p := 71) (j := 10) rfl
                clear kw86
                refine sf_aload rfl ?_
                refine sf_geti Iw86 rfl rfl (fun v88 lv88 uv88 ev88 => ?_)
                rw [uw86] at ev88
                refine sf_f1_le (fun h89 => absurd h89 (by omega)) (fun h89 => ?_)
                refine sf_iconst sf_c0 (fun z90 ez90 => ?_)
                refine sf_ireturn rfl rfl ?_
                exact hR _ _ Iw86 sw86 (by omega) (by omega) (by rw [uw86]; rw [c87]; first | (refine Or.inl ⟨by omega, ?_⟩; omega) | (refine Or.inr (Or.inl ⟨by omega, ?_⟩); omega) | (refine Or.inr (Or.inr ⟨by omega, ?_⟩); omega))
              · refine sf_iload rfl ?_
                refine sf_iload rfl ?_
                refine sf_f2_gt (fun h91 => ?_) (fun h91 => ?_)
                · refine sf_iconst sf_c0 (fun z92 ez92 => ?_)
                  refine sf_zreturn (by omega) rfl rfl ?_
                  refine sf_f1_eq (fun h93 => ?_) (fun h93 => absurd h93 (by omega))
                  refine sf_iconst sf_c0 (fun z94 ez94 => ?_)
                  refine sf_istore (L' := [(0, .inl (.ref 71)), (1, .inl (.int a_heading)), (2, .inl (.int a_land)), (3, .inl (.int a_kind)), (4, .inl (.int a_a)), (5, .inl (.int a_b)), (6, .inl (.int a_from)), (7, .inl (.int a_to))]) rfl ?_
                  refine sf_aload rfl ?_
                  refine sf_iload rfl ?_
                  refine sf_f1_eq (fun h95 => ?_) (fun h95 => absurd h95 (by omega))
                  refine sf_iconst sf_c1 (fun z96 ez96 => ?_)
                  refine sf_puti hI0 hs0 rfl rfl (sf_bd _) rfl rfl rfl (fun w97 Iw97 sw97 kw97 uw97 => ?_)
                  have c98 := sf_mf kw97 (p := 71) (j := 10) rfl
                  clear kw97
                  refine sf_aload rfl ?_
                  refine sf_geti Iw97 rfl rfl (fun v99 lv99 uv99 ev99 => ?_)
                  rw [uw97] at ev99
                  refine sf_f1_le (fun h100 => absurd h100 (by omega)) (fun h100 => ?_)
                  refine sf_iconst sf_c0 (fun z101 ez101 => ?_)
                  refine sf_ireturn rfl rfl ?_
                  exact hR _ _ Iw97 sw97 (by omega) (by omega) (by rw [uw97]; rw [c98]; first | (refine Or.inl ⟨by omega, ?_⟩; omega) | (refine Or.inr (Or.inl ⟨by omega, ?_⟩); omega) | (refine Or.inr (Or.inr ⟨by omega, ?_⟩); omega))
                · refine sf_iconst sf_c1 (fun z102 ez102 => ?_)
                  refine sf_zreturn (by omega) rfl rfl ?_
                  refine sf_f1_eq (fun h103 => absurd h103 (by omega)) (fun h103 => ?_)
                  refine sf_iload rfl ?_
                  refine sf_iconst sf_c0 (fun z104 ez104 => ?_)
                  refine sf_iconst sf_c10000 (fun z105 ez105 => ?_)
                  refine sf_call3 rfl rfl rfl ?_
                  refine sf_sp (L := [(0, .inl (.int a_b)), (1, .inl (.int z104)), (2, .inl (.int z105))]) rfl rfl ?_
                  refine sf_iload rfl ?_
                  refine sf_iload rfl ?_
                  refine sf_f2_lt (fun h106 => ?_) (fun h106 => ?_)
                  · refine sf_iconst sf_c0 (fun z107 ez107 => ?_)
                    refine sf_zreturn (by omega) rfl rfl ?_
                    refine sf_f1_eq (fun h108 => ?_) (fun h108 => absurd h108 (by omega))
                    refine sf_iconst sf_c0 (fun z109 ez109 => ?_)
                    refine sf_istore (L' := [(0, .inl (.ref 71)), (1, .inl (.int a_heading)), (2, .inl (.int a_land)), (3, .inl (.int a_kind)), (4, .inl (.int a_a)), (5, .inl (.int a_b)), (6, .inl (.int a_from)), (7, .inl (.int a_to))]) rfl ?_
                    refine sf_aload rfl ?_
                    refine sf_iload rfl ?_
                    refine sf_f1_eq (fun h110 => ?_) (fun h110 => absurd h110 (by omega))
                    refine sf_iconst sf_c1 (fun z111 ez111 => ?_)
                    refine sf_puti hI0 hs0 rfl rfl (sf_bd _) rfl rfl rfl (fun w112 Iw112 sw112 kw112 uw112 => ?_)
                    have c113 := sf_mf kw112 (p := 71) (j := 10) rfl
                    clear kw112
                    refine sf_aload rfl ?_
                    refine sf_geti Iw112 rfl rfl (fun v114 lv114 uv114 ev114 => ?_)
                    rw [uw112] at ev114
                    refine sf_f1_le (fun h115 => absurd h115 (by omega)) (fun h115 => ?_)
                    refine sf_iconst sf_c0 (fun z116 ez116 => ?_)
                    refine sf_ireturn rfl rfl ?_
                    exact hR _ _ Iw112 sw112 (by omega) (by omega) (by rw [uw112]; rw [c113]; first | (refine Or.inl ⟨by omega, ?_⟩; omega) | (refine Or.inr (Or.inl ⟨by omega, ?_⟩); omega) | (refine Or.inr (Or.inr ⟨by omega, ?_⟩); omega))
                  · refine sf_iload rfl ?_
                    refine sf_iload rfl ?_
                    refine sf_f2_gt (fun h117 => ?_) (fun h117 => ?_)
                    · refine sf_iconst sf_c0 (fun z118 ez118 => ?_)
                      refine sf_zreturn (by omega) rfl rfl ?_
                      refine sf_f1_eq (fun h119 => ?_) (fun h119 => absurd h119 (by omega))
                      refine sf_iconst sf_c0 (fun z120 ez120 => ?_)
                      refine sf_istore (L' := [(0, .inl (.ref 71)), (1, .inl (.int a_heading)), (2, .inl (.int a_land)), (3, .inl (.int a_kind)), (4, .inl (.int a_a)), (5, .inl (.int a_b)), (6, .inl (.int a_from)), (7, .inl (.int a_to))]) rfl ?_
                      refine sf_aload rfl ?_
                      refine sf_iload rfl ?_
                      refine sf_f1_eq (fun h121 => ?_) (fun h121 => absurd h121 (by omega))
                      refine sf_iconst sf_c1 (fun z122 ez122 => ?_)
                      refine sf_puti hI0 hs0 rfl rfl (sf_bd _) rfl rfl rfl (fun w123 Iw123 sw123 kw123 uw123 => ?_)
                      have c124 := sf_mf kw123 (p := 71) (j := 10) rfl
                      clear kw123
                      refine sf_aload rfl ?_
                      refine sf_geti Iw123 rfl rfl (fun v125 lv125 uv125 ev125 => ?_)
                      rw [uw123] at ev125
                      refine sf_f1_le (fun h126 => absurd h126 (by omega)) (fun h126 => ?_)
                      refine sf_iconst sf_c0 (fun z127 ez127 => ?_)
                      refine sf_ireturn rfl rfl ?_
                      exact hR _ _ Iw123 sw123 (by omega) (by omega) (by rw [uw123]; rw [c124]; first | (refine Or.inl ⟨by omega, ?_⟩; omega) | (refine Or.inr (Or.inl ⟨by omega, ?_⟩); omega) | (refine Or.inr (Or.inr ⟨by omega, ?_⟩); omega))
                    · refine sf_iconst sf_c1 (fun z128 ez128 => ?_)
                      refine sf_zreturn (by omega) rfl rfl ?_
                      refine sf_f1_eq (fun h129 => absurd h129 (by omega)) (fun h129 => ?_)
                      refine sf_iconst sf_c1 (fun z130 ez130 => ?_)
                      refine sf_istore (L' := [(0, .inl (.ref 71)), (1, .inl (.int a_heading)), (2, .inl (.int a_land)), (3, .inl (.int a_kind)), (4, .inl (.int a_a)), (5, .inl (.int a_b)), (6, .inl (.int a_from)), (7, .inl (.int a_to))]) rfl ?_
                      refine sf_aload rfl ?_
                      refine sf_iload rfl ?_
                      refine sf_f1_eq (fun h131 => absurd h131 (by omega)) (fun h131 => ?_)
                      refine sf_iload rfl ?_
                      refine sf_f1_lt (fun h132 => ?_) (fun h132 => ?_)
                      · refine sf_iconst sf_c1 (fun z133 ez133 => ?_)
                        refine sf_puti hI0 hs0 rfl rfl (sf_bd _) rfl rfl rfl (fun w134 Iw134 sw134 kw134 uw134 => ?_)
                        have c135 := sf_mf kw134 (p := 71) (j := 10) rfl
                        clear kw134
                        refine sf_aload rfl ?_
                        refine sf_geti Iw134 rfl rfl (fun v136 lv136 uv136 ev136 => ?_)
                        rw [uw134] at ev136
                        refine sf_f1_le (fun h137 => absurd h137 (by omega)) (fun h137 => ?_)
                        refine sf_iconst sf_c0 (fun z138 ez138 => ?_)
                        refine sf_ireturn rfl rfl ?_
                        exact hR _ _ Iw134 sw134 (by omega) (by omega) (by rw [uw134]; rw [c135]; first | (refine Or.inl ⟨by omega, ?_⟩; omega) | (refine Or.inr (Or.inl ⟨by omega, ?_⟩); omega) | (refine Or.inr (Or.inr ⟨by omega, ?_⟩); omega))
                      · refine sf_iload rfl ?_
                        refine sf_iload rfl ?_
                        refine sf_f2_gt (fun h139 => ?_) (fun h139 => ?_)
                        · refine sf_iconst sf_c1 (fun z140 ez140 => ?_)
                          refine sf_puti hI0 hs0 rfl rfl (sf_bd _) rfl rfl rfl (fun w141 Iw141 sw141 kw141 uw141 => ?_)
                          have c142 := sf_mf kw141 (p := 71) (j := 10) rfl
                          clear kw141
                          refine sf_aload rfl ?_
                          refine sf_geti Iw141 rfl rfl (fun v143 lv143 uv143 ev143 => ?_)
                          rw [uw141] at ev143
                          refine sf_f1_le (fun h144 => absurd h144 (by omega)) (fun h144 => ?_)
                          refine sf_iconst sf_c0 (fun z145 ez145 => ?_)
                          refine sf_ireturn rfl rfl ?_
                          exact hR _ _ Iw141 sw141 (by omega) (by omega) (by rw [uw141]; rw [c142]; first | (refine Or.inl ⟨by omega, ?_⟩; omega) | (refine Or.inr (Or.inl ⟨by omega, ?_⟩); omega) | (refine Or.inr (Or.inr ⟨by omega, ?_⟩); omega))
                        · refine sf_iload rfl ?_
                          refine sf_iconst sf_c9999 (fun z146 ez146 => ?_)
                          refine sf_f2_le (fun h147 => ?_) (fun h147 => ?_)
                          · refine sf_aload rfl ?_
                            refine sf_geti hI0 rfl rfl (fun v148 lv148 uv148 ev148 => ?_)
                            refine sf_iconst sf_c40 (fun z149 ez149 => ?_)
                            refine sf_f2_eq (fun h150 => ?_) (fun h150 => ?_)
                            · refine sf_iconst sf_c2 (fun z151 ez151 => ?_)
                              refine sf_puti hI0 hs0 rfl rfl (sf_bd _) rfl rfl rfl (fun w152 Iw152 sw152 kw152 uw152 => ?_)
                              have c153 := sf_mf kw152 (p := 71) (j := 10) rfl
                              clear kw152
                              refine sf_aload rfl ?_
                              refine sf_geti Iw152 rfl rfl (fun v154 lv154 uv154 ev154 => ?_)
                              rw [uw152] at ev154
                              refine sf_f1_le (fun h155 => absurd h155 (by omega)) (fun h155 => ?_)
                              refine sf_iconst sf_c0 (fun z156 ez156 => ?_)
                              refine sf_ireturn rfl rfl ?_
                              exact hR _ _ Iw152 sw152 (by omega) (by omega) (by rw [uw152]; rw [c153]; first | (refine Or.inl ⟨by omega, ?_⟩; omega) | (refine Or.inr (Or.inl ⟨by omega, ?_⟩); omega) | (refine Or.inr (Or.inr ⟨by omega, ?_⟩); omega))
                            · refine sf_iconst sf_c0 (fun z157 ez157 => ?_)
                              refine sf_puti hI0 hs0 rfl rfl (sf_bd _) rfl rfl rfl (fun w158 Iw158 sw158 kw158 uw158 => ?_)
                              have c159 := sf_mf kw158 (p := 71) (j := 10) rfl
                              clear kw158
                              refine sf_aload rfl ?_
                              refine sf_geti Iw158 rfl rfl (fun v160 lv160 uv160 ev160 => ?_)
                              rw [uw158] at ev160
                              refine sf_f1_le (fun h161 => ?_) (fun h161 => absurd h161 (by omega))
                              refine sf_aload rfl ?_
                              refine sf_getr Iw158 rfl rfl ?_
                              refine sf_aload rfl ?_
                              refine sf_geti Iw158 rfl rfl (fun v162 lv162 uv162 ev162 => ?_)
                              rw [c159] at ev162
                              refine sf_iload rfl ?_
                              refine sf_iast Iw158 sw158 rfl (by omega) (sf_bd _) rfl rfl (fun w163 Iw163 sw163 kw163 uw163 => ?_)
                              have c164 := sf_mf kw163 (p := 71) (j := 0) rfl
                              have c165 := sf_mf kw163 (p := 71) (j := 10) rfl
                              clear kw163 uw163
                              refine sf_aload rfl ?_
                              refine sf_getr Iw163 rfl rfl ?_
                              refine sf_aload rfl ?_
                              refine sf_geti Iw163 rfl rfl (fun v166 lv166 uv166 ev166 => ?_)
                              rw [c165, c159] at ev166
                              refine sf_iload rfl ?_
                              refine sf_iast Iw163 sw163 rfl (by omega) (sf_bd _) rfl rfl (fun w167 Iw167 sw167 kw167 uw167 => ?_)
                              have c168 := sf_mf kw167 (p := 71) (j := 0) rfl
                              have c169 := sf_mf kw167 (p := 71) (j := 10) rfl
                              clear kw167 uw167
                              refine sf_aload rfl ?_
                              refine sf_getr Iw167 rfl rfl ?_
                              refine sf_aload rfl ?_
                              refine sf_geti Iw167 rfl rfl (fun v170 lv170 uv170 ev170 => ?_)
                              rw [c169, c165, c159] at ev170
                              refine sf_iload rfl ?_
                              refine sf_iast Iw167 sw167 rfl (by omega) (sf_bd _) rfl rfl (fun w171 Iw171 sw171 kw171 uw171 => ?_)
                              have c172 := sf_mf kw171 (p := 71) (j := 0) rfl
                              have c173 := sf_mf kw171 (p := 71) (j := 10) rfl
                              clear kw171 uw171
                              refine sf_aload rfl ?_
                              refine sf_getr Iw171 rfl rfl ?_
                              refine sf_aload rfl ?_
                              refine sf_geti Iw171 rfl rfl (fun v174 lv174 uv174 ev174 => ?_)
                              rw [c173, c169, c165, c159] at ev174
                              refine sf_iload rfl ?_
                              refine sf_iast Iw171 sw171 rfl (by omega) (sf_bd _) rfl rfl (fun w175 Iw175 sw175 kw175 uw175 => ?_)
                              have c176 := sf_mf kw175 (p := 71) (j := 0) rfl
                              have c177 := sf_mf kw175 (p := 71) (j := 10) rfl
                              clear kw175 uw175
                              refine sf_aload rfl ?_
                              refine sf_getr Iw175 rfl rfl ?_
                              refine sf_aload rfl ?_
                              refine sf_geti Iw175 rfl rfl (fun v178 lv178 uv178 ev178 => ?_)
                              rw [c177, c173, c169, c165, c159] at ev178
                              refine sf_iload rfl ?_
                              refine sf_iast Iw175 sw175 rfl (by omega) (sf_bd _) rfl rfl (fun w179 Iw179 sw179 kw179 uw179 => ?_)
                              have c180 := sf_mf kw179 (p := 71) (j := 0) rfl
                              have c181 := sf_mf kw179 (p := 71) (j := 10) rfl
                              clear kw179 uw179
                              refine sf_aload rfl ?_
                              refine sf_getr Iw179 rfl rfl ?_
                              refine sf_aload rfl ?_
                              refine sf_geti Iw179 rfl rfl (fun v182 lv182 uv182 ev182 => ?_)
                              rw [c181, c177, c173, c169, c165, c159] at ev182
                              refine sf_iload rfl ?_
                              refine sf_iast Iw179 sw179 rfl (by omega) (sf_bd _) rfl rfl (fun w183 Iw183 sw183 kw183 uw183 => ?_)
                              have c184 := sf_mf kw183 (p := 71) (j := 0) rfl
                              have c185 := sf_mf kw183 (p := 71) (j := 10) rfl
                              clear kw183 uw183
                              refine sf_aload rfl ?_
                              refine sf_getr Iw183 rfl rfl ?_
                              refine sf_aload rfl ?_
                              refine sf_geti Iw183 rfl rfl (fun v186 lv186 uv186 ev186 => ?_)
                              rw [c185, c181, c177, c173, c169, c165, c159] at ev186
                              refine sf_iload rfl ?_
                              refine sf_iast Iw183 sw183 rfl (by omega) (sf_bd _) rfl rfl (fun w187 Iw187 sw187 kw187 uw187 => ?_)
                              have c188 := sf_mf kw187 (p := 71) (j := 0) rfl
                              have c189 := sf_mf kw187 (p := 71) (j := 10) rfl
                              clear kw187 uw187
                              refine sf_aload rfl ?_
                              refine sf_dup rfl ?_
                              refine sf_geti Iw187 rfl rfl (fun v190 lv190 uv190 ev190 => ?_)
                              rw [c189, c185, c181, c177, c173, c169, c165, c159] at ev190
                              refine sf_iconst sf_c1 (fun z191 ez191 => ?_)
                              refine sf_iadd (by omega) (fun v192 ev192 => ?_)
                              refine sf_puti Iw187 sw187 rfl rfl (by omega) rfl rfl rfl (fun w193 Iw193 sw193 kw193 uw193 => ?_)
                              have c194 := sf_mf kw193 (p := 71) (j := 0) rfl
                              clear kw193
                              refine sf_aload rfl ?_
                              refine sf_geti Iw193 rfl rfl (fun v195 lv195 uv195 ev195 => ?_)
                              rw [uw193] at ev195
                              refine sf_iconst sf_c1 (fun z196 ez196 => ?_)
                              refine sf_isub (by omega) (fun v197 ev197 => ?_)
                              refine sf_ireturn rfl rfl ?_
                              exact hR _ _ Iw193 sw193 (by omega) (by omega) (by rw [c194, c188, c184, c180, c176, c172, c168, c164, uw158]; rw [uw193]; first | (refine Or.inl ⟨by omega, ?_⟩; omega) | (refine Or.inr (Or.inl ⟨by omega, ?_⟩); omega) | (refine Or.inr (Or.inr ⟨by omega, ?_⟩); omega))
                          · refine sf_iconst sf_c1 (fun z198 ez198 => ?_)
                            refine sf_puti hI0 hs0 rfl rfl (sf_bd _) rfl rfl rfl (fun w199 Iw199 sw199 kw199 uw199 => ?_)
                            have c200 := sf_mf kw199 (p := 71) (j := 10) rfl
                            clear kw199
                            refine sf_aload rfl ?_
                            refine sf_geti Iw199 rfl rfl (fun v201 lv201 uv201 ev201 => ?_)
                            rw [uw199] at ev201
                            refine sf_f1_le (fun h202 => absurd h202 (by omega)) (fun h202 => ?_)
                            refine sf_iconst sf_c0 (fun z203 ez203 => ?_)
                            refine sf_ireturn rfl rfl ?_
                            exact hR _ _ Iw199 sw199 (by omega) (by omega) (by rw [uw199]; rw [c200]; first | (refine Or.inl ⟨by omega, ?_⟩; omega) | (refine Or.inr (Or.inl ⟨by omega, ?_⟩); omega) | (refine Or.inr (Or.inr ⟨by omega, ?_⟩); omega))
def sm_M_rateFor : List Nat := [71, 8100]
set_option maxRecDepth 100000 in
set_option maxHeartbeats 4000000 in
theorem sc_M_rateFor {w0 : wq_W} (hI0 : sf_I w0) {rt : Option wq_V → wq_W → Prop} {xt : Nat → wq_W → Prop} {a_heading : Int32} {a_land : Int32} {a_when : Int32}  (hR : ∀ (r : Int32) (w : wq_W), sf_I w → sf_m sm_M_rateFor w0 w → (-1) ≤ r.toInt → r.toInt ≤ 39 → rt (some (.inl (.int r))) w) : ks_M_rateFor [.inl (.ref 71), .inl (.int a_heading), .inl (.int a_land), .inl (.int a_when)] w0 rt xt := by
  have hs0 : sf_m sm_M_rateFor w0 w0 := sf_m0
  refine sf_sp (L := [(0, .inl (.ref 71)), (1, .inl (.int a_heading)), (2, .inl (.int a_land)), (3, .inl (.int a_when))]) rfl rfl ?_
  refine sf_aload rfl ?_
  refine sf_aload rfl ?_
  refine sf_iload rfl ?_
  refine sf_call2 rfl rfl rfl ?_
  refine sf_rv hI0 rfl ?_
  refine sf_sp (L := [(0, .inl (.ref 71)), (1, .inl (.int a_heading))]) rfl rfl ?_
  refine sf_iload rfl ?_
  refine sf_f1_lt (fun h1 => ?_) (fun h1 => ?_)
  · refine sf_iconst sf_c0 (fun z2 ez2 => ?_)
    refine sf_zreturn (by omega) rfl rfl ?_
    refine sf_f1_eq (fun h3 => ?_) (fun h3 => absurd h3 (by omega))
    refine sf_iconst sf_c1 (fun z4 ez4 => ?_)
    refine sf_puti hI0 hs0 rfl rfl (sf_bd _) rfl rfl rfl (fun w5 Iw5 sw5 kw5 uw5 => ?_)
    clear kw5
    refine sf_aload rfl ?_
    refine sf_geti Iw5 rfl rfl (fun v6 lv6 uv6 ev6 => ?_)
    rw [uw5] at ev6
    refine sf_f1_le (fun h7 => absurd h7 (by omega)) (fun h7 => ?_)
    refine sf_iconst sf_c0 (fun z8 ez8 => ?_)
    refine sf_ireturn rfl rfl ?_
    exact hR _ _ Iw5 sw5 (by omega) (by omega) 
  · refine sf_iload rfl ?_
    refine sf_aload rfl ?_
    refine sf_geti hI0 rfl rfl (fun v9 lv9 uv9 ev9 => ?_)
    refine sf_f2_ge (fun h10 => ?_) (fun h10 => ?_)
    · refine sf_iconst sf_c0 (fun z11 ez11 => ?_)
      refine sf_zreturn (by omega) rfl rfl ?_
      refine sf_f1_eq (fun h12 => ?_) (fun h12 => absurd h12 (by omega))
      refine sf_iconst sf_c1 (fun z13 ez13 => ?_)
      refine sf_puti hI0 hs0 rfl rfl (sf_bd _) rfl rfl rfl (fun w14 Iw14 sw14 kw14 uw14 => ?_)
      clear kw14
      refine sf_aload rfl ?_
      refine sf_geti Iw14 rfl rfl (fun v15 lv15 uv15 ev15 => ?_)
      rw [uw14] at ev15
      refine sf_f1_le (fun h16 => absurd h16 (by omega)) (fun h16 => ?_)
      refine sf_iconst sf_c0 (fun z17 ez17 => ?_)
      refine sf_ireturn rfl rfl ?_
      exact hR _ _ Iw14 sw14 (by omega) (by omega) 
    · refine sf_iconst sf_c1 (fun z18 ez18 => ?_)
      refine sf_zreturn (by omega) rfl rfl ?_
      refine sf_f1_eq (fun h19 => absurd h19 (by omega)) (fun h19 => ?_)
      refine sf_iload rfl ?_
      refine sf_iconst sf_c0 (fun z20 ez20 => ?_)
      refine sf_iconst sf_c7 (fun z21 ez21 => ?_)
      refine sf_call3 rfl rfl rfl ?_
      refine sf_sp (L := [(0, .inl (.int a_land)), (1, .inl (.int z20)), (2, .inl (.int z21))]) rfl rfl ?_
      refine sf_iload rfl ?_
      refine sf_iload rfl ?_
      refine sf_f2_lt (fun h22 => ?_) (fun h22 => ?_)
      · refine sf_iconst sf_c0 (fun z23 ez23 => ?_)
        refine sf_zreturn (by omega) rfl rfl ?_
        refine sf_f1_eq (fun h24 => ?_) (fun h24 => absurd h24 (by omega))
        refine sf_iconst sf_c1 (fun z25 ez25 => ?_)
        refine sf_puti hI0 hs0 rfl rfl (sf_bd _) rfl rfl rfl (fun w26 Iw26 sw26 kw26 uw26 => ?_)
        clear kw26
        refine sf_aload rfl ?_
        refine sf_geti Iw26 rfl rfl (fun v27 lv27 uv27 ev27 => ?_)
        rw [uw26] at ev27
        refine sf_f1_le (fun h28 => absurd h28 (by omega)) (fun h28 => ?_)
        refine sf_iconst sf_c0 (fun z29 ez29 => ?_)
        refine sf_ireturn rfl rfl ?_
        exact hR _ _ Iw26 sw26 (by omega) (by omega) 
      · refine sf_iload rfl ?_
        refine sf_iload rfl ?_
        refine sf_f2_gt (fun h30 => ?_) (fun h30 => ?_)
        · refine sf_iconst sf_c0 (fun z31 ez31 => ?_)
          refine sf_zreturn (by omega) rfl rfl ?_
          refine sf_f1_eq (fun h32 => ?_) (fun h32 => absurd h32 (by omega))
          refine sf_iconst sf_c1 (fun z33 ez33 => ?_)
          refine sf_puti hI0 hs0 rfl rfl (sf_bd _) rfl rfl rfl (fun w34 Iw34 sw34 kw34 uw34 => ?_)
          clear kw34
          refine sf_aload rfl ?_
          refine sf_geti Iw34 rfl rfl (fun v35 lv35 uv35 ev35 => ?_)
          rw [uw34] at ev35
          refine sf_f1_le (fun h36 => absurd h36 (by omega)) (fun h36 => ?_)
          refine sf_iconst sf_c0 (fun z37 ez37 => ?_)
          refine sf_ireturn rfl rfl ?_
          exact hR _ _ Iw34 sw34 (by omega) (by omega) 
        · refine sf_iconst sf_c1 (fun z38 ez38 => ?_)
          refine sf_zreturn (by omega) rfl rfl ?_
          refine sf_f1_eq (fun h39 => absurd h39 (by omega)) (fun h39 => ?_)
          refine sf_iload rfl ?_
          refine sf_iconst sf_c0 (fun z40 ez40 => ?_)
          refine sf_iconst sf_c9999 (fun z41 ez41 => ?_)
          refine sf_call3 rfl rfl rfl ?_
          refine sf_sp (L := [(0, .inl (.int a_when)), (1, .inl (.int z40)), (2, .inl (.int z41))]) rfl rfl ?_
          refine sf_iload rfl ?_
          refine sf_iload rfl ?_
          refine sf_f2_lt (fun h42 => ?_) (fun h42 => ?_)
          · refine sf_iconst sf_c0 (fun z43 ez43 => ?_)
            refine sf_zreturn (by omega) rfl rfl ?_
            refine sf_f1_eq (fun h44 => ?_) (fun h44 => absurd h44 (by omega))
            refine sf_iconst sf_c1 (fun z45 ez45 => ?_)
            refine sf_puti hI0 hs0 rfl rfl (sf_bd _) rfl rfl rfl (fun w46 Iw46 sw46 kw46 uw46 => ?_)
            clear kw46
            refine sf_aload rfl ?_
            refine sf_geti Iw46 rfl rfl (fun v47 lv47 uv47 ev47 => ?_)
            rw [uw46] at ev47
            refine sf_f1_le (fun h48 => absurd h48 (by omega)) (fun h48 => ?_)
            refine sf_iconst sf_c0 (fun z49 ez49 => ?_)
            refine sf_ireturn rfl rfl ?_
            exact hR _ _ Iw46 sw46 (by omega) (by omega) 
          · refine sf_iload rfl ?_
            refine sf_iload rfl ?_
            refine sf_f2_gt (fun h50 => ?_) (fun h50 => ?_)
            · refine sf_iconst sf_c0 (fun z51 ez51 => ?_)
              refine sf_zreturn (by omega) rfl rfl ?_
              refine sf_f1_eq (fun h52 => ?_) (fun h52 => absurd h52 (by omega))
              refine sf_iconst sf_c1 (fun z53 ez53 => ?_)
              refine sf_puti hI0 hs0 rfl rfl (sf_bd _) rfl rfl rfl (fun w54 Iw54 sw54 kw54 uw54 => ?_)
              clear kw54
              refine sf_aload rfl ?_
              refine sf_geti Iw54 rfl rfl (fun v55 lv55 uv55 ev55 => ?_)
              rw [uw54] at ev55
              refine sf_f1_le (fun h56 => absurd h56 (by omega)) (fun h56 => ?_)
              refine sf_iconst sf_c0 (fun z57 ez57 => ?_)
              refine sf_ireturn rfl rfl ?_
              exact hR _ _ Iw54 sw54 (by omega) (by omega) 
            · refine sf_iconst sf_c1 (fun z58 ez58 => ?_)
              refine sf_zreturn (by omega) rfl rfl ?_
              refine sf_f1_eq (fun h59 => absurd h59 (by omega)) (fun h59 => ?_)
              refine sf_iconst sf_c0 (fun z60 ez60 => ?_)
              refine sf_puti hI0 hs0 rfl rfl (sf_bd _) rfl rfl rfl (fun w61 Iw61 sw61 kw61 uw61 => ?_)
              clear kw61
              refine sf_aload rfl ?_
              refine sf_geti Iw61 rfl rfl (fun v62 lv62 uv62 ev62 => ?_)
              rw [uw61] at ev62
              refine sf_f1_le (fun h63 => ?_) (fun h63 => absurd h63 (by omega))
              refine sf_aload rfl ?_
              refine sf_iload rfl ?_
              refine sf_iload rfl ?_
              refine sf_iload rfl ?_
              refine sf_call4 rfl rfl rfl ?_
              refine sf_rv Iw61 rfl ?_
              refine sc_M_rateOf Iw61 (by omega) (by omega) (by rw [sf_mf sw61 (p := 71) (j := 1) rfl]; omega) (fun v64 lv64 uv64 => ?_)
              refine sf_ireturn rfl rfl ?_
              exact hR _ _ Iw61 sw61 (by omega) (by omega) 
