def sm_M_lot : List Nat := [71, 8100]
set_option maxRecDepth 100000 in
set_option maxHeartbeats 4000000 in
theorem sc_M_lot {w0 : wq_W} (hI0 : sf_I w0) {rt : Option wq_V → wq_W → Prop} {xt : Nat → wq_W → Prop} {a_k : Int32} {a_what : Int32}  (hR : ∀ (r : Int64) (w : wq_W), sf_I w → sf_m sm_M_lot w0 w → rt (some (.inl (.long r))) w) : ks_M_lot [.inl (.ref 71), .inl (.int a_k), .inl (.int a_what)] w0 rt xt := by
  have hs0 : sf_m sm_M_lot w0 w0 := sf_m0
  refine sf_sp (L := [(0, .inl (.ref 71)), (1, .inl (.int a_k)), (2, .inl (.int a_what))]) rfl rfl ?_
  refine sf_aload rfl ?_
  refine sf_iload rfl ?_
  refine sf_f1_lt (fun h1 => ?_) (fun h1 => ?_)
  · refine sf_iconst sf_c1 (fun z2 ez2 => ?_)
    refine sf_puti hI0 hs0 rfl rfl (sf_bd _) rfl rfl rfl (fun w3 Iw3 sw3 kw3 uw3 => ?_)
    clear kw3
    refine sf_aload rfl ?_
    refine sf_geti Iw3 rfl rfl (fun v4 lv4 uv4 ev4 => ?_)
    rw [uw3] at ev4
    refine sf_f1_le (fun h5 => absurd h5 (by omega)) (fun h5 => ?_)
    refine sf_lconst (by decide : (0 : Int64).toInt = 0) (fun z6 ez6 => ?_)
    refine sf_lreturn rfl rfl ?_
    exact hR _ _ Iw3 sw3 
  · refine sf_iload rfl ?_
    refine sf_aload rfl ?_
    refine sf_geti hI0 rfl rfl (fun v7 lv7 uv7 ev7 => ?_)
    refine sf_f2_ge (fun h8 => ?_) (fun h8 => ?_)
    · refine sf_iconst sf_c1 (fun z9 ez9 => ?_)
      refine sf_puti hI0 hs0 rfl rfl (sf_bd _) rfl rfl rfl (fun w10 Iw10 sw10 kw10 uw10 => ?_)
      clear kw10
      refine sf_aload rfl ?_
      refine sf_geti Iw10 rfl rfl (fun v11 lv11 uv11 ev11 => ?_)
      rw [uw10] at ev11
      refine sf_f1_le (fun h12 => absurd h12 (by omega)) (fun h12 => ?_)
      refine sf_lconst (by decide : (0 : Int64).toInt = 0) (fun z13 ez13 => ?_)
      refine sf_lreturn rfl rfl ?_
      exact hR _ _ Iw10 sw10 
    · refine sf_iload rfl ?_
      refine sf_iconst sf_c0 (fun z14 ez14 => ?_)
      refine sf_iconst sf_c4 (fun z15 ez15 => ?_)
      refine sf_call3 rfl rfl rfl ?_
      refine sf_sp (L := [(0, .inl (.int a_what)), (1, .inl (.int z14)), (2, .inl (.int z15))]) rfl rfl ?_
      refine sf_iload rfl ?_
      refine sf_iload rfl ?_
      refine sf_f2_lt (fun h16 => ?_) (fun h16 => ?_)
      · refine sf_iconst sf_c0 (fun z17 ez17 => ?_)
        refine sf_zreturn (by omega) rfl rfl ?_
        refine sf_f1_eq (fun h18 => ?_) (fun h18 => absurd h18 (by omega))
        refine sf_iconst sf_c1 (fun z19 ez19 => ?_)
        refine sf_puti hI0 hs0 rfl rfl (sf_bd _) rfl rfl rfl (fun w20 Iw20 sw20 kw20 uw20 => ?_)
        clear kw20
        refine sf_aload rfl ?_
        refine sf_geti Iw20 rfl rfl (fun v21 lv21 uv21 ev21 => ?_)
        rw [uw20] at ev21
        refine sf_f1_le (fun h22 => absurd h22 (by omega)) (fun h22 => ?_)
        refine sf_lconst (by decide : (0 : Int64).toInt = 0) (fun z23 ez23 => ?_)
        refine sf_lreturn rfl rfl ?_
        exact hR _ _ Iw20 sw20 
      · refine sf_iload rfl ?_
        refine sf_iload rfl ?_
        refine sf_f2_gt (fun h24 => ?_) (fun h24 => ?_)
        · refine sf_iconst sf_c0 (fun z25 ez25 => ?_)
          refine sf_zreturn (by omega) rfl rfl ?_
          refine sf_f1_eq (fun h26 => ?_) (fun h26 => absurd h26 (by omega))
          refine sf_iconst sf_c1 (fun z27 ez27 => ?_)
          refine sf_puti hI0 hs0 rfl rfl (sf_bd _) rfl rfl rfl (fun w28 Iw28 sw28 kw28 uw28 => ?_)
          clear kw28
          refine sf_aload rfl ?_
          refine sf_geti Iw28 rfl rfl (fun v29 lv29 uv29 ev29 => ?_)
          rw [uw28] at ev29
          refine sf_f1_le (fun h30 => absurd h30 (by omega)) (fun h30 => ?_)
          refine sf_lconst (by decide : (0 : Int64).toInt = 0) (fun z31 ez31 => ?_)
          refine sf_lreturn rfl rfl ?_
          exact hR _ _ Iw28 sw28 
        · refine sf_iconst sf_c1 (fun z32 ez32 => ?_)
          refine sf_zreturn (by omega) rfl rfl ?_
          refine sf_f1_eq (fun h33 => absurd h33 (by omega)) (fun h33 => ?_)
          refine sf_iconst sf_c0 (fun z34 ez34 => ?_)
          refine sf_puti hI0 hs0 rfl rfl (sf_bd _) rfl rfl rfl (fun w35 Iw35 sw35 kw35 uw35 => ?_)
          clear kw35
          refine sf_aload rfl ?_
          refine sf_geti Iw35 rfl rfl (fun v36 lv36 uv36 ev36 => ?_)
          rw [uw35] at ev36
          refine sf_f1_le (fun h37 => ?_) (fun h37 => absurd h37 (by omega))
          refine sf_iload rfl ?_
          refine sf_sw1 sf_c0 (fun h38 => ?_) (fun h38 => ?_)
          · refine sf_aload rfl ?_
            refine sf_getr Iw35 rfl rfl ?_
            refine sf_iload rfl ?_
            refine sf_iald Iw35 rfl (by omega) (fun v39 lv39 uv39 ev39 => ?_)
            clear lv39 uv39
            clear ev39
            refine sf_i2lb (fun v40 ev40 lv40 uv40 => ?_)
            refine sf_lreturn rfl rfl ?_
            exact hR _ _ Iw35 sw35 
          · refine sf_sw1 sf_c1 (fun h41 => ?_) (fun h41 => ?_)
            · refine sf_aload rfl ?_
              refine sf_getr Iw35 rfl rfl ?_
              refine sf_iload rfl ?_
              refine sf_iald Iw35 rfl (by omega) (fun v42 lv42 uv42 ev42 => ?_)
              rw [sf_ma sw35 (p := 122) rfl] at ev42
              refine sf_i2lb (fun v43 ev43 lv43 uv43 => ?_)
              refine sf_lreturn rfl rfl ?_
              exact hR _ _ Iw35 sw35 
            · refine sf_sw1 sf_c2 (fun h44 => ?_) (fun h44 => ?_)
              · refine sf_aload rfl ?_
                refine sf_getr Iw35 rfl rfl ?_
                refine sf_iload rfl ?_
                refine sf_iald Iw35 rfl (by omega) (fun v45 lv45 uv45 ev45 => ?_)
                rw [sf_ma sw35 (p := 123) rfl] at ev45
                refine sf_i2l (fun v46 ev46 => ?_)
                refine sf_lreturn rfl rfl ?_
                exact hR _ _ Iw35 sw35 
              · refine sf_sw1 sf_c3 (fun h47 => ?_) (fun h47 => ?_)
                · refine sf_aload rfl ?_
                  refine sf_getr Iw35 rfl rfl ?_
                  refine sf_iload rfl ?_
                  refine sf_lald Iw35 rfl (by omega) (fun v48 ev48 => ?_)
                  clear ev48
                  refine sf_lreturn rfl rfl ?_
                  exact hR _ _ Iw35 sw35 
                · refine sf_sw0 ?_
                  refine sf_aload rfl ?_
                  refine sf_getr Iw35 rfl rfl ?_
                  refine sf_iload rfl ?_
                  refine sf_zald Iw35 rfl (by omega) (fun v49 lv49 uv49 ev49 => ?_)
                  clear ev49
                  refine sf_f1_eq (fun h50 => ?_) (fun h50 => ?_)
                  · refine sf_lconst (by decide : (0 : Int64).toInt = 0) (fun z51 ez51 => ?_)
                    refine sf_lreturn rfl rfl ?_
                    exact hR _ _ Iw35 sw35 
                  · refine sf_lconst (by decide : (1 : Int64).toInt = 1) (fun z52 ez52 => ?_)
                    refine sf_lreturn rfl rfl ?_
                    exact hR _ _ Iw35 sw35 
def sm_M_account : List Nat := [71, 8100]
set_option maxRecDepth 100000 in
set_option maxHeartbeats 4000000 in
theorem sc_M_account {w0 : wq_W} (hI0 : sf_I w0) {rt : Option wq_V → wq_W → Prop} {xt : Nat → wq_W → Prop} {a_good : Int32} {a_what : Int32} (p0 : sl_B (sf_a w0 122) (sf_a w0 123)) (hR : ∀ (r : Int64) (w : wq_W), sf_I w → sf_m sm_M_account w0 w → ((((sf_f w 71 0).toInt = 1 ∧ ¬ (0 ≤ a_good.toInt ∧ a_good.toInt ≤ 15 ∧ 0 ≤ a_what.toInt ∧ a_what.toInt ≤ 5)) ∨ ((sf_f w 71 0).toInt = 0 ∧ (0 ≤ a_good.toInt ∧ a_good.toInt ≤ 15 ∧ 0 ≤ a_what.toInt ∧ a_what.toInt ≤ 5) ∧ ((a_what.toInt = 0 ∧ r.toInt = (sl_S (sl_mc (sf_a w0 121) (sf_a w0 125) (sf_a w0 126) a_good.toInt 0) (sl_u (sf_a w0 122)) (sf_f w0 71 56).toInt.toNat)) ∨ (a_what.toInt = 1 ∧ r.toInt = (sl_S (sl_mc (sf_a w0 121) (sf_a w0 125) (sf_a w0 126) a_good.toInt 1) (sl_u (sf_a w0 122)) (sf_f w0 71 56).toInt.toNat)) ∨ (a_what.toInt = 2 ∧ r.toInt = (sf_a w0 127 a_good.toInt.toNat).toInt) ∨ (a_what.toInt = 3 ∧ r.toInt = (sf_a w0 128 a_good.toInt.toNat).toInt) ∨ (a_what.toInt = 4 ∧ r.toInt = (sf_a w0 129 a_good.toInt.toNat).toInt) ∨ (a_what.toInt = 5 ∧ r.toInt = (sl_S (sl_mt (sf_a w0 121) (sf_a w0 125) a_good.toInt 1) (sl_v (sf_a w0 122) (sf_a w0 123)) (sf_f w0 71 56).toInt.toNat)))))) → rt (some (.inl (.long r))) w) : ks_M_account [.inl (.ref 71), .inl (.int a_good), .inl (.int a_what)] w0 rt xt := by
  have hs0 : sf_m sm_M_account w0 w0 := sf_m0
  refine sf_sp (L := [(0, .inl (.ref 71)), (1, .inl (.int a_good)), (2, .inl (.int a_what))]) rfl rfl ?_
  refine sf_aload rfl ?_
  refine sf_iload rfl ?_
  refine sf_iconst sf_c0 (fun z1 ez1 => ?_)
  refine sf_iconst sf_c15 (fun z2 ez2 => ?_)
  refine sf_call3 rfl rfl rfl ?_
  refine sf_sp (L := [(0, .inl (.int a_good)), (1, .inl (.int z1)), (2, .inl (.int z2))]) rfl rfl ?_
  refine sf_iload rfl ?_
  refine sf_iload rfl ?_
  refine sf_f2_lt (fun h3 => ?_) (fun h3 => ?_)
  · refine sf_iconst sf_c0 (fun z4 ez4 => ?_)
    refine sf_zreturn (by omega) rfl rfl ?_
    refine sf_f1_eq (fun h5 => ?_) (fun h5 => absurd h5 (by omega))
    refine sf_iconst sf_c1 (fun z6 ez6 => ?_)
    refine sf_puti hI0 hs0 rfl rfl (sf_bd _) rfl rfl rfl (fun w7 Iw7 sw7 kw7 uw7 => ?_)
    clear kw7
    refine sf_aload rfl ?_
    refine sf_geti Iw7 rfl rfl (fun v8 lv8 uv8 ev8 => ?_)
    rw [uw7] at ev8
    refine sf_f1_le (fun h9 => absurd h9 (by omega)) (fun h9 => ?_)
    refine sf_lconst (by decide : (0 : Int64).toInt = 0) (fun z10 ez10 => ?_)
    refine sf_lreturn rfl rfl ?_
    exact hR _ _ Iw7 sw7 (by rw [uw7]; first | (refine Or.inl ⟨by omega, ?_⟩; omega) | (refine Or.inr ⟨by omega, by omega, ?_⟩; omega))
  · refine sf_iload rfl ?_
    refine sf_iload rfl ?_
    refine sf_f2_gt (fun h11 => ?_) (fun h11 => ?_)
    · refine sf_iconst sf_c0 (fun z12 ez12 => ?_)
      refine sf_zreturn (by omega) rfl rfl ?_
      refine sf_f1_eq (fun h13 => ?_) (fun h13 => absurd h13 (by omega))
      refine sf_iconst sf_c1 (fun z14 ez14 => ?_)
      refine sf_puti hI0 hs0 rfl rfl (sf_bd _) rfl rfl rfl (fun w15 Iw15 sw15 kw15 uw15 => ?_)
      clear kw15
      refine sf_aload rfl ?_
      refine sf_geti Iw15 rfl rfl (fun v16 lv16 uv16 ev16 => ?_)
      rw [uw15] at ev16
      refine sf_f1_le (fun h17 => absurd h17 (by omega)) (fun h17 => ?_)
      refine sf_lconst (by decide : (0 : Int64).toInt = 0) (fun z18 ez18 => ?_)
      refine sf_lreturn rfl rfl ?_
      exact hR _ _ Iw15 sw15 (by rw [uw15]; first | (refine Or.inl ⟨by omega, ?_⟩; omega) | (refine Or.inr ⟨by omega, by omega, ?_⟩; omega))
    · refine sf_iconst sf_c1 (fun z19 ez19 => ?_)
      refine sf_zreturn (by omega) rfl rfl ?_
      refine sf_f1_eq (fun h20 => absurd h20 (by omega)) (fun h20 => ?_)
      refine sf_iload rfl ?_
      refine sf_iconst sf_c0 (fun z21 ez21 => ?_)
      refine sf_iconst sf_c5 (fun z22 ez22 => ?_)
      refine sf_call3 rfl rfl rfl ?_
      refine sf_sp (L := [(0, .inl (.int a_what)), (1, .inl (.int z21)), (2, .inl (.int z22))]) rfl rfl ?_
      refine sf_iload rfl ?_
      refine sf_iload rfl ?_
      refine sf_f2_lt (fun h23 => ?_) (fun h23 => ?_)
      · refine sf_iconst sf_c0 (fun z24 ez24 => ?_)
        refine sf_zreturn (by omega) rfl rfl ?_
        refine sf_f1_eq (fun h25 => ?_) (fun h25 => absurd h25 (by omega))
        refine sf_iconst sf_c1 (fun z26 ez26 => ?_)
        refine sf_puti hI0 hs0 rfl rfl (sf_bd _) rfl rfl rfl (fun w27 Iw27 sw27 kw27 uw27 => ?_)
        clear kw27
        refine sf_aload rfl ?_
        refine sf_geti Iw27 rfl rfl (fun v28 lv28 uv28 ev28 => ?_)
        rw [uw27] at ev28
        refine sf_f1_le (fun h29 => absurd h29 (by omega)) (fun h29 => ?_)
        refine sf_lconst (by decide : (0 : Int64).toInt = 0) (fun z30 ez30 => ?_)
        refine sf_lreturn rfl rfl ?_
        exact hR _ _ Iw27 sw27 (by rw [uw27]; first | (refine Or.inl ⟨by omega, ?_⟩; omega) | (refine Or.inr ⟨by omega, by omega, ?_⟩; omega))
      · refine sf_iload rfl ?_
        refine sf_iload rfl ?_
        refine sf_f2_gt (fun h31 => ?_) (fun h31 => ?_)
        · refine sf_iconst sf_c0 (fun z32 ez32 => ?_)
          refine sf_zreturn (by omega) rfl rfl ?_
          refine sf_f1_eq (fun h33 => ?_) (fun h33 => absurd h33 (by omega))
          refine sf_iconst sf_c1 (fun z34 ez34 => ?_)
          refine sf_puti hI0 hs0 rfl rfl (sf_bd _) rfl rfl rfl (fun w35 Iw35 sw35 kw35 uw35 => ?_)
          clear kw35
          refine sf_aload rfl ?_
          refine sf_geti Iw35 rfl rfl (fun v36 lv36 uv36 ev36 => ?_)
          rw [uw35] at ev36
          refine sf_f1_le (fun h37 => absurd h37 (by omega)) (fun h37 => ?_)
          refine sf_lconst (by decide : (0 : Int64).toInt = 0) (fun z38 ez38 => ?_)
          refine sf_lreturn rfl rfl ?_
          exact hR _ _ Iw35 sw35 (by rw [uw35]; first | (refine Or.inl ⟨by omega, ?_⟩; omega) | (refine Or.inr ⟨by omega, by omega, ?_⟩; omega))
        · refine sf_iconst sf_c1 (fun z39 ez39 => ?_)
          refine sf_zreturn (by omega) rfl rfl ?_
          refine sf_f1_eq (fun h40 => absurd h40 (by omega)) (fun h40 => ?_)
          refine sf_iconst sf_c0 (fun z41 ez41 => ?_)
          refine sf_puti hI0 hs0 rfl rfl (sf_bd _) rfl rfl rfl (fun w42 Iw42 sw42 kw42 uw42 => ?_)
          clear kw42
          refine sf_aload rfl ?_
          refine sf_geti Iw42 rfl rfl (fun v43 lv43 uv43 ev43 => ?_)
          rw [uw42] at ev43
          refine sf_f1_le (fun h44 => ?_) (fun h44 => absurd h44 (by omega))
          refine sf_iload rfl ?_
          refine sf_sw1 sf_c0 (fun h45 => ?_) (fun h45 => ?_)
          · refine sf_aload rfl ?_
            refine sf_iload rfl ?_
            refine sf_iconst sf_c0 (fun z46 ez46 => ?_)
            refine sf_call3 rfl rfl rfl ?_
            refine sf_rv Iw42 rfl ?_
            refine sc_M_came Iw42 (by omega) (by omega) (by rw [sf_ma sw42 (p := 122) rfl]; rw [sf_ma sw42 (p := 123) rfl]; exact p0) (fun v47 lv47 uv47 q48_0 => ?_)
            rw [sf_ma sw42 (p := 121) rfl] at q48_0
            rw [sf_ma sw42 (p := 122) rfl] at q48_0
            rw [sf_ma sw42 (p := 125) rfl] at q48_0
            rw [sf_ma sw42 (p := 126) rfl] at q48_0
            rw [sf_mf sw42 (p := 71) (j := 56) rfl] at q48_0
            have gS := q48_0
            rw [show z46.toInt = 0 by omega] at gS
            refine sf_i2l (fun v49 ev49 => ?_)
            refine sf_lreturn rfl rfl ?_
            exact hR _ _ Iw42 sw42 (by rw [uw42]; first | (refine Or.inl ⟨by omega, ?_⟩; omega) | (refine Or.inr ⟨by omega, by omega, ?_⟩; omega))
          · refine sf_sw1 sf_c1 (fun h50 => ?_) (fun h50 => ?_)
            · refine sf_aload rfl ?_
              refine sf_iload rfl ?_
              refine sf_iconst sf_c1 (fun z51 ez51 => ?_)
              refine sf_call3 rfl rfl rfl ?_
              refine sf_rv Iw42 rfl ?_
              refine sc_M_came Iw42 (by omega) (by omega) (by rw [sf_ma sw42 (p := 122) rfl]; rw [sf_ma sw42 (p := 123) rfl]; exact p0) (fun v52 lv52 uv52 q53_0 => ?_)
              rw [sf_ma sw42 (p := 121) rfl] at q53_0
              rw [sf_ma sw42 (p := 122) rfl] at q53_0
              rw [sf_ma sw42 (p := 125) rfl] at q53_0
              rw [sf_ma sw42 (p := 126) rfl] at q53_0
              rw [sf_mf sw42 (p := 71) (j := 56) rfl] at q53_0
              have gS := q53_0
              rw [show z51.toInt = 1 by omega] at gS
              refine sf_i2l (fun v54 ev54 => ?_)
              refine sf_lreturn rfl rfl ?_
              exact hR _ _ Iw42 sw42 (by rw [uw42]; first | (refine Or.inl ⟨by omega, ?_⟩; omega) | (refine Or.inr ⟨by omega, by omega, ?_⟩; omega))
            · refine sf_sw1 sf_c2 (fun h55 => ?_) (fun h55 => ?_)
              · refine sf_aload rfl ?_
                refine sf_getr Iw42 rfl rfl ?_
                refine sf_iload rfl ?_
                refine sf_iald Iw42 rfl (by omega) (fun v56 lv56 uv56 ev56 => ?_)
                clear lv56 uv56
                rw [sf_ma sw42 (p := 127) rfl] at ev56
                refine sf_i2lb (fun v57 ev57 lv57 uv57 => ?_)
                refine sf_lreturn rfl rfl ?_
                exact hR _ _ Iw42 sw42 (by rw [uw42]; first | (refine Or.inl ⟨by omega, ?_⟩; omega) | (refine Or.inr ⟨by omega, by omega, ?_⟩; omega))
              · refine sf_sw1 sf_c3 (fun h58 => ?_) (fun h58 => ?_)
                · refine sf_aload rfl ?_
                  refine sf_getr Iw42 rfl rfl ?_
                  refine sf_iload rfl ?_
                  refine sf_iald Iw42 rfl (by omega) (fun v59 lv59 uv59 ev59 => ?_)
                  clear lv59 uv59
                  rw [sf_ma sw42 (p := 128) rfl] at ev59
                  refine sf_i2lb (fun v60 ev60 lv60 uv60 => ?_)
                  refine sf_lreturn rfl rfl ?_
                  exact hR _ _ Iw42 sw42 (by rw [uw42]; first | (refine Or.inl ⟨by omega, ?_⟩; omega) | (refine Or.inr ⟨by omega, by omega, ?_⟩; omega))
                · refine sf_sw1 sf_c4 (fun h61 => ?_) (fun h61 => ?_)
                  · refine sf_aload rfl ?_
                    refine sf_getr Iw42 rfl rfl ?_
                    refine sf_iload rfl ?_
                    refine sf_iald Iw42 rfl (by omega) (fun v62 lv62 uv62 ev62 => ?_)
                    clear lv62 uv62
                    rw [sf_ma sw42 (p := 129) rfl] at ev62
                    refine sf_i2lb (fun v63 ev63 lv63 uv63 => ?_)
                    refine sf_lreturn rfl rfl ?_
                    exact hR _ _ Iw42 sw42 (by rw [uw42]; first | (refine Or.inl ⟨by omega, ?_⟩; omega) | (refine Or.inr ⟨by omega, by omega, ?_⟩; omega))
                  · refine sf_sw0 ?_
                    refine sf_aload rfl ?_
                    refine sf_iload rfl ?_
                    refine sf_iconst sf_c1 (fun z64 ez64 => ?_)
                    refine sf_call3 rfl rfl rfl ?_
                    refine sf_rv Iw42 rfl ?_
                    refine sc_M_left Iw42 (by omega) (by omega) (by rw [sf_ma sw42 (p := 122) rfl]; rw [sf_ma sw42 (p := 123) rfl]; exact p0) (fun v65 lv65 uv65 q66_0 => ?_)
                    rw [sf_ma sw42 (p := 121) rfl] at q66_0
                    rw [sf_ma sw42 (p := 122) rfl] at q66_0
                    rw [sf_ma sw42 (p := 123) rfl] at q66_0
                    rw [sf_ma sw42 (p := 125) rfl] at q66_0
                    rw [sf_mf sw42 (p := 71) (j := 56) rfl] at q66_0
                    have gS := q66_0
                    rw [show z64.toInt = 1 by omega] at gS
                    refine sf_i2l (fun v67 ev67 => ?_)
                    refine sf_lreturn rfl rfl ?_
                    exact hR _ _ Iw42 sw42 (by rw [uw42]; first | (refine Or.inl ⟨by omega, ?_⟩; omega) | (refine Or.inr ⟨by omega, by omega, ?_⟩; omega))
def sm_M_books : List Nat := [71, 8100]
set_option maxRecDepth 100000 in
set_option maxHeartbeats 4000000 in
theorem sc_M_books {w0 : wq_W} (hI0 : sf_I w0) {rt : Option wq_V → wq_W → Prop} {xt : Nat → wq_W → Prop} {a_what : Int32}  (hR : ∀ (r : Int64) (w : wq_W), sf_I w → sf_m sm_M_books w0 w → rt (some (.inl (.long r))) w) : ks_M_books [.inl (.ref 71), .inl (.int a_what)] w0 rt xt := by
  have hs0 : sf_m sm_M_books w0 w0 := sf_m0
  refine sf_sp (L := [(0, .inl (.ref 71)), (1, .inl (.int a_what))]) rfl rfl ?_
  refine sf_aload rfl ?_
  refine sf_iload rfl ?_
  refine sf_iconst sf_c0 (fun z1 ez1 => ?_)
  refine sf_iconst sf_c1 (fun z2 ez2 => ?_)
  refine sf_call3 rfl rfl rfl ?_
  refine sf_sp (L := [(0, .inl (.int a_what)), (1, .inl (.int z1)), (2, .inl (.int z2))]) rfl rfl ?_
  refine sf_iload rfl ?_
  refine sf_iload rfl ?_
  refine sf_f2_lt (fun h3 => ?_) (fun h3 => ?_)
  · refine sf_iconst sf_c0 (fun z4 ez4 => ?_)
    refine sf_zreturn (by omega) rfl rfl ?_
    refine sf_f1_eq (fun h5 => ?_) (fun h5 => absurd h5 (by omega))
    refine sf_iconst sf_c1 (fun z6 ez6 => ?_)
    refine sf_puti hI0 hs0 rfl rfl (sf_bd _) rfl rfl rfl (fun w7 Iw7 sw7 kw7 uw7 => ?_)
    clear kw7
    refine sf_aload rfl ?_
    refine sf_geti Iw7 rfl rfl (fun v8 lv8 uv8 ev8 => ?_)
    rw [uw7] at ev8
    refine sf_f1_le (fun h9 => absurd h9 (by omega)) (fun h9 => ?_)
    refine sf_lconst (by decide : (0 : Int64).toInt = 0) (fun z10 ez10 => ?_)
    refine sf_lreturn rfl rfl ?_
    exact hR _ _ Iw7 sw7 
  · refine sf_iload rfl ?_
    refine sf_iload rfl ?_
    refine sf_f2_gt (fun h11 => ?_) (fun h11 => ?_)
    · refine sf_iconst sf_c0 (fun z12 ez12 => ?_)
      refine sf_zreturn (by omega) rfl rfl ?_
      refine sf_f1_eq (fun h13 => ?_) (fun h13 => absurd h13 (by omega))
      refine sf_iconst sf_c1 (fun z14 ez14 => ?_)
      refine sf_puti hI0 hs0 rfl rfl (sf_bd _) rfl rfl rfl (fun w15 Iw15 sw15 kw15 uw15 => ?_)
      clear kw15
      refine sf_aload rfl ?_
      refine sf_geti Iw15 rfl rfl (fun v16 lv16 uv16 ev16 => ?_)
      rw [uw15] at ev16
      refine sf_f1_le (fun h17 => absurd h17 (by omega)) (fun h17 => ?_)
      refine sf_lconst (by decide : (0 : Int64).toInt = 0) (fun z18 ez18 => ?_)
      refine sf_lreturn rfl rfl ?_
      exact hR _ _ Iw15 sw15 
    · refine sf_iconst sf_c1 (fun z19 ez19 => ?_)
      refine sf_zreturn (by omega) rfl rfl ?_
      refine sf_f1_eq (fun h20 => absurd h20 (by omega)) (fun h20 => ?_)
      refine sf_iconst sf_c0 (fun z21 ez21 => ?_)
      refine sf_puti hI0 hs0 rfl rfl (sf_bd _) rfl rfl rfl (fun w22 Iw22 sw22 kw22 uw22 => ?_)
      clear kw22
      refine sf_aload rfl ?_
      refine sf_geti Iw22 rfl rfl (fun v23 lv23 uv23 ev23 => ?_)
      rw [uw22] at ev23
      refine sf_f1_le (fun h24 => ?_) (fun h24 => absurd h24 (by omega))
      refine sf_iload rfl ?_
      refine sf_f1_eq (fun h25 => ?_) (fun h25 => ?_)
      · refine sf_aload rfl ?_
        refine sf_getl Iw22 rfl rfl (fun v26 => ?_)
        refine sf_lreturn rfl rfl ?_
        exact hR _ _ Iw22 sw22 
      · refine sf_aload rfl ?_
        refine sf_getl Iw22 rfl rfl (fun v27 => ?_)
        refine sf_lreturn rfl rfl ?_
        exact hR _ _ Iw22 sw22 
