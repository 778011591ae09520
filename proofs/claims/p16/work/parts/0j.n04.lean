def sm_M_lineOf : List Nat := [71, 92, 111, 112, 117, 118, 119, 120, 8100]
set_option maxRecDepth 100000 in
set_option maxHeartbeats 4000000 in
theorem sc_M_lineOf {w0 : wq_W} (hI0 : sf_I w0) {rt : Option wq_V → wq_W → Prop} {xt : Nat → wq_W → Prop} {a_d : Int32} {a_l : Int32} {a_what : Int32}  (hR : ∀ (r : Int64) (w : wq_W), sf_I w → sf_m sm_M_lineOf w0 w → rt (some (.inl (.long r))) w) : ks_M_lineOf [.inl (.ref 71), .inl (.int a_d), .inl (.int a_l), .inl (.int a_what)] w0 rt xt := by
  have hs0 : sf_m sm_M_lineOf w0 w0 := sf_m0
  refine sf_sp (L := [(0, .inl (.ref 71)), (1, .inl (.int a_d)), (2, .inl (.int a_l)), (3, .inl (.int a_what))]) rfl rfl ?_
  refine sf_aload rfl ?_
  refine sf_aload rfl ?_
  refine sf_iload rfl ?_
  refine sf_iload rfl ?_
  refine sf_call3 rfl rfl rfl ?_
  refine sf_rv hI0 rfl ?_
  refine sf_sp (L := [(0, .inl (.ref 71)), (1, .inl (.int a_d)), (2, .inl (.int a_l))]) rfl rfl ?_
  refine sf_aload rfl ?_
  refine sf_iload rfl ?_
  refine sf_call2 rfl rfl rfl ?_
  refine sf_rv hI0 rfl ?_
  refine sf_sp (L := [(0, .inl (.ref 71)), (1, .inl (.int a_d))]) rfl rfl ?_
  refine sf_iload rfl ?_
  refine sf_f1_lt (fun h1 => ?_) (fun h1 => ?_)
  · refine sf_iconst sf_c0 (fun z2 ez2 => ?_)
    refine sf_zreturn (by omega) rfl rfl ?_
    refine sf_f1_eq (fun h3 => ?_) (fun h3 => absurd h3 (by omega))
    refine sf_iconst sf_c0 (fun z4 ez4 => ?_)
    refine sf_zreturn (by omega) rfl rfl ?_
    refine sf_f1_eq (fun h5 => ?_) (fun h5 => absurd h5 (by omega))
    refine sf_iconst sf_c1 (fun z6 ez6 => ?_)
    refine sf_puti hI0 hs0 rfl rfl (sf_bd _) rfl rfl rfl (fun w7 Iw7 sw7 kw7 uw7 => ?_)
    have c8 := sf_ma kw7 (p := 117) rfl
    clear kw7
    refine sf_aload rfl ?_
    refine sf_geti Iw7 rfl rfl (fun v9 lv9 uv9 ev9 => ?_)
    rw [uw7] at ev9
    refine sf_f1_le (fun h10 => absurd h10 (by omega)) (fun h10 => ?_)
    refine sf_lconst (by decide : (0 : Int64).toInt = 0) (fun z11 ez11 => ?_)
    refine sf_lreturn rfl rfl ?_
    exact hR _ _ Iw7 sw7 
  · refine sf_iload rfl ?_
    refine sf_aload rfl ?_
    refine sf_geti hI0 rfl rfl (fun v12 lv12 uv12 ev12 => ?_)
    refine sf_f2_ge (fun h13 => ?_) (fun h13 => ?_)
    · refine sf_iconst sf_c0 (fun z14 ez14 => ?_)
      refine sf_zreturn (by omega) rfl rfl ?_
      refine sf_f1_eq (fun h15 => ?_) (fun h15 => absurd h15 (by omega))
      refine sf_iconst sf_c0 (fun z16 ez16 => ?_)
      refine sf_zreturn (by omega) rfl rfl ?_
      refine sf_f1_eq (fun h17 => ?_) (fun h17 => absurd h17 (by omega))
      refine sf_iconst sf_c1 (fun z18 ez18 => ?_)
      refine sf_puti hI0 hs0 rfl rfl (sf_bd _) rfl rfl rfl (fun w19 Iw19 sw19 kw19 uw19 => ?_)
      have c20 := sf_ma kw19 (p := 117) rfl
      clear kw19
      refine sf_aload rfl ?_
      refine sf_geti Iw19 rfl rfl (fun v21 lv21 uv21 ev21 => ?_)
      rw [uw19] at ev21
      refine sf_f1_le (fun h22 => absurd h22 (by omega)) (fun h22 => ?_)
      refine sf_lconst (by decide : (0 : Int64).toInt = 0) (fun z23 ez23 => ?_)
      refine sf_lreturn rfl rfl ?_
      exact hR _ _ Iw19 sw19 
    · refine sf_iconst sf_c1 (fun z24 ez24 => ?_)
      refine sf_zreturn (by omega) rfl rfl ?_
      refine sf_f1_eq (fun h25 => absurd h25 (by omega)) (fun h25 => ?_)
      refine sf_iload rfl ?_
      refine sf_f1_lt (fun h26 => ?_) (fun h26 => ?_)
      · refine sf_iconst sf_c0 (fun z27 ez27 => ?_)
        refine sf_zreturn (by omega) rfl rfl ?_
        refine sf_f1_eq (fun h28 => ?_) (fun h28 => absurd h28 (by omega))
        refine sf_iconst sf_c1 (fun z29 ez29 => ?_)
        refine sf_puti hI0 hs0 rfl rfl (sf_bd _) rfl rfl rfl (fun w30 Iw30 sw30 kw30 uw30 => ?_)
        have c31 := sf_ma kw30 (p := 117) rfl
        clear kw30
        refine sf_aload rfl ?_
        refine sf_geti Iw30 rfl rfl (fun v32 lv32 uv32 ev32 => ?_)
        rw [uw30] at ev32
        refine sf_f1_le (fun h33 => absurd h33 (by omega)) (fun h33 => ?_)
        refine sf_lconst (by decide : (0 : Int64).toInt = 0) (fun z34 ez34 => ?_)
        refine sf_lreturn rfl rfl ?_
        exact hR _ _ Iw30 sw30 
      · refine sf_iload rfl ?_
        refine sf_aload rfl ?_
        refine sf_getr hI0 rfl rfl ?_
        refine sf_iload rfl ?_
        refine sf_iald hI0 rfl (by omega) (fun v35 lv35 uv35 ev35 => ?_)
        refine sf_f2_ge (fun h36 => ?_) (fun h36 => ?_)
        · refine sf_iconst sf_c0 (fun z37 ez37 => ?_)
          refine sf_zreturn (by omega) rfl rfl ?_
          refine sf_f1_eq (fun h38 => ?_) (fun h38 => absurd h38 (by omega))
          refine sf_iconst sf_c1 (fun z39 ez39 => ?_)
          refine sf_puti hI0 hs0 rfl rfl (sf_bd _) rfl rfl rfl (fun w40 Iw40 sw40 kw40 uw40 => ?_)
          have c41 := sf_ma kw40 (p := 117) rfl
          clear kw40
          refine sf_aload rfl ?_
          refine sf_geti Iw40 rfl rfl (fun v42 lv42 uv42 ev42 => ?_)
          rw [uw40] at ev42
          refine sf_f1_le (fun h43 => absurd h43 (by omega)) (fun h43 => ?_)
          refine sf_lconst (by decide : (0 : Int64).toInt = 0) (fun z44 ez44 => ?_)
          refine sf_lreturn rfl rfl ?_
          exact hR _ _ Iw40 sw40 
        · refine sf_iconst sf_c1 (fun z45 ez45 => ?_)
          refine sf_zreturn (by omega) rfl rfl ?_
          refine sf_f1_eq (fun h46 => absurd h46 (by omega)) (fun h46 => ?_)
          refine sf_iload rfl ?_
          refine sf_iconst sf_c0 (fun z47 ez47 => ?_)
          refine sf_iconst sf_c2 (fun z48 ez48 => ?_)
          refine sf_call3 rfl rfl rfl ?_
          refine sf_sp (L := [(0, .inl (.int a_what)), (1, .inl (.int z47)), (2, .inl (.int z48))]) rfl rfl ?_
          refine sf_iload rfl ?_
          refine sf_iload rfl ?_
          refine sf_f2_lt (fun h49 => ?_) (fun h49 => ?_)
          · refine sf_iconst sf_c0 (fun z50 ez50 => ?_)
            refine sf_zreturn (by omega) rfl rfl ?_
            refine sf_f1_eq (fun h51 => ?_) (fun h51 => absurd h51 (by omega))
            refine sf_iconst sf_c1 (fun z52 ez52 => ?_)
            refine sf_puti hI0 hs0 rfl rfl (sf_bd _) rfl rfl rfl (fun w53 Iw53 sw53 kw53 uw53 => ?_)
            have c54 := sf_ma kw53 (p := 117) rfl
            clear kw53
            refine sf_aload rfl ?_
            refine sf_geti Iw53 rfl rfl (fun v55 lv55 uv55 ev55 => ?_)
            rw [uw53] at ev55
            refine sf_f1_le (fun h56 => absurd h56 (by omega)) (fun h56 => ?_)
            refine sf_lconst (by decide : (0 : Int64).toInt = 0) (fun z57 ez57 => ?_)
            refine sf_lreturn rfl rfl ?_
            exact hR _ _ Iw53 sw53 
          · refine sf_iload rfl ?_
            refine sf_iload rfl ?_
            refine sf_f2_gt (fun h58 => ?_) (fun h58 => ?_)
            · refine sf_iconst sf_c0 (fun z59 ez59 => ?_)
              refine sf_zreturn (by omega) rfl rfl ?_
              refine sf_f1_eq (fun h60 => ?_) (fun h60 => absurd h60 (by omega))
              refine sf_iconst sf_c1 (fun z61 ez61 => ?_)
              refine sf_puti hI0 hs0 rfl rfl (sf_bd _) rfl rfl rfl (fun w62 Iw62 sw62 kw62 uw62 => ?_)
              have c63 := sf_ma kw62 (p := 117) rfl
              clear kw62
              refine sf_aload rfl ?_
              refine sf_geti Iw62 rfl rfl (fun v64 lv64 uv64 ev64 => ?_)
              rw [uw62] at ev64
              refine sf_f1_le (fun h65 => absurd h65 (by omega)) (fun h65 => ?_)
              refine sf_lconst (by decide : (0 : Int64).toInt = 0) (fun z66 ez66 => ?_)
              refine sf_lreturn rfl rfl ?_
              exact hR _ _ Iw62 sw62 
            · refine sf_iconst sf_c1 (fun z67 ez67 => ?_)
              refine sf_zreturn (by omega) rfl rfl ?_
              refine sf_f1_eq (fun h68 => absurd h68 (by omega)) (fun h68 => ?_)
              refine sf_iconst sf_c0 (fun z69 ez69 => ?_)
              refine sf_puti hI0 hs0 rfl rfl (sf_bd _) rfl rfl rfl (fun w70 Iw70 sw70 kw70 uw70 => ?_)
              have c71 := sf_ma kw70 (p := 117) rfl
              clear kw70
              refine sf_aload rfl ?_
              refine sf_geti Iw70 rfl rfl (fun v72 lv72 uv72 ev72 => ?_)
              rw [uw70] at ev72
              refine sf_f1_le (fun h73 => ?_) (fun h73 => absurd h73 (by omega))
              refine sf_iconst sf_c4 (fun z74 ez74 => ?_)
              refine sf_iload rfl ?_
              refine sf_imull (n := 4) (by omega) (by omega) (fun v75 ev75 => ?_)
              refine sf_iload rfl ?_
              refine sf_iadd (by omega) (fun v76 ev76 => ?_)
              refine sf_istore (L' := [(0, .inl (.ref 71)), (1, .inl (.int a_d)), (2, .inl (.int a_l)), (3, .inl (.int a_what))]) rfl ?_
              refine sf_iload rfl ?_
              refine sf_f1_eq (fun h77 => ?_) (fun h77 => ?_)
              · refine sf_aload rfl ?_
                refine sf_iload rfl ?_
                refine sf_call2 rfl rfl rfl ?_
                refine sf_rv Iw70 rfl ?_
                refine sc_M_value Iw70 (by omega) (by omega) (fun w78 Iw78 tw78 => ?_)
                have s80 := sf_mt sw70 tw78 rfl
                have c81 := sf_mf tw78 (p := 71) (j := 0) rfl
                have c82 := sf_ma tw78 (p := 117) rfl
                refine sf_aload rfl ?_
                refine sf_getr Iw78 rfl rfl ?_
                refine sf_iload rfl ?_
                refine sf_lald Iw78 rfl (by omega) (fun v83 ev83 => ?_)
                clear ev83
                refine sf_lreturn rfl rfl ?_
                exact hR _ _ Iw78 s80 
              · refine sf_aload rfl ?_
                refine sf_getr Iw70 rfl rfl ?_
                refine sf_iload rfl ?_
                refine sf_zald Iw70 rfl (by omega) (fun v84 lv84 uv84 ev84 => ?_)
                clear ev84
                refine sf_f1_eq (fun h85 => ?_) (fun h85 => ?_)
                · refine sf_aload rfl ?_
                  refine sf_aload rfl ?_
                  refine sf_iload rfl ?_
                  refine sf_call2 rfl rfl rfl ?_
                  refine sf_rv Iw70 rfl ?_
                  refine sc_M_find Iw70 (by omega) (by omega) (fun v86 w87 Iw87 tw87 lv86 uv86 q88_0 => ?_)
                  have s89 := sf_mt sw70 tw87 rfl
                  have c90 := sf_mf tw87 (p := 71) (j := 0) rfl
                  have r2 := q88_0
                  rw [sf_ma s89 (p := 104) rfl] at r2
                  refine sf_f1_eq (fun h91 => ?_) (fun h91 => ?_)
                  · refine sf_iconst sf_c2 (fun z92 ez92 => ?_)
                    refine sf_puti Iw87 s89 rfl rfl (sf_bd _) rfl rfl rfl (fun w93 Iw93 sw93 kw93 uw93 => ?_)
                    have c94 := sf_ma kw93 (p := 117) rfl
                    clear kw93
                    refine sf_aload rfl ?_
                    refine sf_geti Iw93 rfl rfl (fun v95 lv95 uv95 ev95 => ?_)
                    rw [uw93] at ev95
                    refine sf_f1_le (fun h96 => absurd h96 (by omega)) (fun h96 => ?_)
                    refine sf_lconst (by decide : (0 : Int64).toInt = 0) (fun z97 ez97 => ?_)
                    refine sf_lreturn rfl rfl ?_
                    exact hR _ _ Iw93 sw93 
                  · refine sf_iconst sf_c0 (fun z98 ez98 => ?_)
                    refine sf_puti Iw87 s89 rfl rfl (sf_bd _) rfl rfl rfl (fun w99 Iw99 sw99 kw99 uw99 => ?_)
                    have c100 := sf_ma kw99 (p := 117) rfl
                    clear kw99
                    refine sf_aload rfl ?_
                    refine sf_geti Iw99 rfl rfl (fun v101 lv101 uv101 ev101 => ?_)
                    rw [uw99] at ev101
                    refine sf_f1_le (fun h102 => ?_) (fun h102 => absurd h102 (by omega))
                    refine sf_aload rfl ?_
                    refine sf_iload rfl ?_
                    refine sf_call2 rfl rfl rfl ?_
                    refine sf_rv Iw99 rfl ?_
                    refine sc_M_assess Iw99 (by omega) (by omega) (by rw [sf_ma sw99 (p := 104) rfl]; rw [c100]; exact r2 (by omega)) (fun v103 w104 Iw104 tw104 => ?_)
                    have s106 := sf_mt sw99 tw104 rfl
                    have c107 := sf_mf tw104 (p := 71) (j := 0) rfl
                    have c108 := sf_ma tw104 (p := 117) rfl
                    refine sf_pop2 rfl ?_
                    refine sf_iload rfl ?_
                    refine sf_iconst sf_c1 (fun z109 ez109 => ?_)
                    refine sf_f2_eq (fun h110 => ?_) (fun h110 => ?_)
                    · refine sf_aload rfl ?_
                      refine sf_getr Iw104 rfl rfl ?_
                      refine sf_iload rfl ?_
                      refine sf_iald Iw104 rfl (by omega) (fun v111 lv111 uv111 ev111 => ?_)
                      clear lv111 uv111
                      clear ev111
                      refine sf_i2lb (fun v112 ev112 lv112 uv112 => ?_)
                      refine sf_lreturn rfl rfl ?_
                      exact hR _ _ Iw104 s106 
                    · refine sf_aload rfl ?_
                      refine sf_getr Iw104 rfl rfl ?_
                      refine sf_iload rfl ?_
                      refine sf_lald Iw104 rfl (by omega) (fun v113 ev113 => ?_)
                      clear ev113
                      refine sf_lreturn rfl rfl ?_
                      exact hR _ _ Iw104 s106 
                · refine sf_iload rfl ?_
                  refine sf_iconst sf_c1 (fun z114 ez114 => ?_)
                  refine sf_f2_eq (fun h115 => ?_) (fun h115 => ?_)
                  · refine sf_aload rfl ?_
                    refine sf_getr Iw70 rfl rfl ?_
                    refine sf_iload rfl ?_
                    refine sf_iald Iw70 rfl (by omega) (fun v116 lv116 uv116 ev116 => ?_)
                    clear lv116 uv116
                    clear ev116
                    refine sf_i2lb (fun v117 ev117 lv117 uv117 => ?_)
                    refine sf_lreturn rfl rfl ?_
                    exact hR _ _ Iw70 sw70 
                  · refine sf_aload rfl ?_
                    refine sf_getr Iw70 rfl rfl ?_
                    refine sf_iload rfl ?_
                    refine sf_lald Iw70 rfl (by omega) (fun v118 ev118 => ?_)
                    clear ev118
                    refine sf_lreturn rfl rfl ?_
                    exact hR _ _ Iw70 sw70 
def sm_M_accept : List Nat := [71, 91, 92, 106, 111, 112, 113, 114, 115, 116, 117, 118, 119, 120, 121, 122, 124, 125, 126, 8100, 8141, 8156, 8166]
set_option maxRecDepth 100000 in
set_option maxHeartbeats 4000000 in
theorem sc_M_accept {w0 : wq_W} (hI0 : sf_I w0) {rt : Option wq_V → wq_W → Prop} {xt : Nat → wq_W → Prop} {a_d : Int32} (p0 : sf_J (sf_a w0 3) (sf_a w0 72) (sf_f w0 71 1).toInt) (hR : ∀ (r : Int64) (w : wq_W), sf_I w → sf_m sm_M_accept w0 w → (sl_ca (sf_f w 71 0).toInt (0 ≤ a_d.toInt ∧ a_d.toInt < (sf_f w0 71 35).toInt) ((sf_a w0 106 a_d.toInt.toNat).toInt = 1) (sl_LT (sf_a w0 102) (sf_a w0 103) (sf_f w0 71 41).toInt a_d.toInt.toNat) (sc_ok (sc_rm (sc_b (sf_a w0 72) (sf_a w0 75) (sf_a w0 76) (sf_a w0 77) (sf_a w0 78) (sf_a w0 3) (sp_aa (sf_a w0 93)) (sf_f w0 71 5).toInt (sf_f w0 71 1).toInt) (sf_a w0 72) (sf_a w0 79) (sf_a w0 80) (sf_a w0 84) (sf_a w0 85) (sf_f w0 71 10).toInt (sf_a w0 107) (sf_a w0 108) (sf_a w0 102 a_d.toInt.toNat).toInt (4 * a_d.toInt).toNat) (sf_a w0 104 a_d.toInt.toNat).toInt) (40 < (sf_f w0 71 56).toInt + (sf_a w0 104 a_d.toInt.toNat).toInt)) → ((((sf_f w 71 0).toInt ≠ 0 ∧ (sf_f w 71 56) = (sf_f w0 71 56) ∧ sf_a w 121 = sf_a w0 121 ∧ sf_a w 122 = sf_a w0 122 ∧ sf_a w 125 = sf_a w0 125 ∧ sf_a w 126 = sf_a w0 126 ∧ sf_a w 113 = sf_a w0 113 ∧ sf_a w 106 = sf_a w0 106 ∧ (sf_f w 71 41) = (sf_f w0 71 41)) ∨ ((sf_f w 71 0).toInt = 0 ∧ (sf_f w 71 56).toInt = (sf_f w0 71 56).toInt + (sf_a w0 104 a_d.toInt.toNat).toInt ∧ sf_a w 121 = sl_W (sf_a w0 121) (sl_ix (sf_f w0 71 56).toInt) (sl_sr (sf_a w0 107) (4 * a_d.toInt).toNat) (sf_a w0 104 a_d.toInt.toNat).toInt.toNat ∧ sf_a w 122 = sl_W (sf_a w0 122) (sl_ix (sf_f w0 71 56).toInt) (sl_s3 (sf_a w0 110) (4 * a_d.toInt).toNat) (sf_a w0 104 a_d.toInt.toNat).toInt.toNat ∧ sf_a w 125 = sl_W (sf_a w0 125) (sl_ix (sf_f w0 71 56).toInt) (sl_sr (sf_a w0 109) (4 * a_d.toInt).toNat) (sf_a w0 104 a_d.toInt.toNat).toInt.toNat ∧ sf_a w 126 = sl_W (sf_a w0 126) (sl_ix (sf_f w0 71 56).toInt) (sl_kk 0) (sf_a w0 104 a_d.toInt.toNat).toInt.toNat ∧ sf_a w 113 = sl_W (sf_a w0 113) (sl_ix (4 * a_d.toInt)) (sl_nk (sf_f w0 71 56).toInt) (sf_a w0 104 a_d.toInt.toNat).toInt.toNat ∧ (∃ v : Int32, v.toInt = 1 ∧ sf_a w 106 = upd (sf_a w0 106) a_d.toInt.toNat v) ∧ (sf_f w 71 41).toInt = a_d.toInt))) → rt (some (.inl (.long r))) w) : ks_M_accept [.inl (.ref 71), .inl (.int a_d)] w0 rt xt := by
  have hs0 : sf_m sm_M_accept w0 w0 := sf_m0
  have hl : ∀ n : Nat, (∀ (w : wq_W) (x2 : Int64) (x4 : Int32), (sf_I w) → (sf_m sm_M_accept w0 w) → (0 ≤ x4.toInt) → (x4.toInt ≤ 48) → ((sf_f w 71 56).toInt + 4 * a_d.toInt + (sf_a w0 104 a_d.toInt.toNat).toInt - x4.toInt ≤ 40) → (0 ≤ a_d.toInt) → (a_d.toInt ≤ 11) → ((sf_f w 71 0).toInt = 0 ∧ (0 ≤ a_d.toInt ∧ a_d.toInt < (sf_f w0 71 35).toInt) ∧ ¬ ((sf_a w0 106 a_d.toInt.toNat).toInt = 1) ∧ ¬ (sl_LT (sf_a w0 102) (sf_a w0 103) (sf_f w0 71 41).toInt a_d.toInt.toNat) ∧ (sc_ok (sc_rm (sc_b (sf_a w0 72) (sf_a w0 75) (sf_a w0 76) (sf_a w0 77) (sf_a w0 78) (sf_a w0 3) (sp_aa (sf_a w0 93)) (sf_f w0 71 5).toInt (sf_f w0 71 1).toInt) (sf_a w0 72) (sf_a w0 79) (sf_a w0 80) (sf_a w0 84) (sf_a w0 85) (sf_f w0 71 10).toInt (sf_a w0 107) (sf_a w0 108) (sf_a w0 102 a_d.toInt.toNat).toInt (4 * a_d.toInt).toNat) (sf_a w0 104 a_d.toInt.toNat).toInt) ∧ ¬ (40 < (sf_f w0 71 56).toInt + (sf_a w0 104 a_d.toInt.toNat).toInt)) → (4 * a_d.toInt ≤ x4.toInt ∧ x4.toInt ≤ 4 * a_d.toInt + (sf_a w0 104 a_d.toInt.toNat).toInt ∧ (sf_f w 71 56).toInt = (sf_f w0 71 56).toInt + (x4.toInt - 4 * a_d.toInt)) → (sf_a w 121 = sl_W (sf_a w0 121) (sl_ix (sf_f w0 71 56).toInt) (sl_sr (sf_a w0 107) (4 * a_d.toInt).toNat) (x4.toInt - 4 * a_d.toInt).toNat) → (sf_a w 122 = sl_W (sf_a w0 122) (sl_ix (sf_f w0 71 56).toInt) (sl_s3 (sf_a w0 110) (4 * a_d.toInt).toNat) (x4.toInt - 4 * a_d.toInt).toNat) → (sf_a w 125 = sl_W (sf_a w0 125) (sl_ix (sf_f w0 71 56).toInt) (sl_sr (sf_a w0 109) (4 * a_d.toInt).toNat) (x4.toInt - 4 * a_d.toInt).toNat) → (sf_a w 126 = sl_W (sf_a w0 126) (sl_ix (sf_f w0 71 56).toInt) (sl_kk 0) (x4.toInt - 4 * a_d.toInt).toNat) → (sf_a w 113 = sl_W (sf_a w0 113) (sl_ix (4 * a_d.toInt)) (sl_nk (sf_f w0 71 56).toInt) (x4.toInt - 4 * a_d.toInt).toNat) → (sf_a w 106 = sf_a w0 106) → (48 - x4.toInt < (n : Int)) → ku_M_accept rt xt n 95 [(0, .inl (.ref 71)), (1, .inl (.int a_d)), (2, .inl (.long x2)), (4, .inl (.int x4))] [] w 0 0) := by
    intro n
    induction n with
    | zero =>
      refine ?_
      · intros; omega
    | succ n ih =>
      have i_95 := ih
      intro w x2 x4 I_w s_w l_x4 u_x4 f_0 f_1 f_2 f_3 f_4 f_5 f_6 f_7 f_8 f_9 f_10 hm
      show kh_M_accept_95 rt xt (ku_M_accept rt xt n) [(0, .inl (.ref 71)), (1, .inl (.int a_d)), (2, .inl (.long x2)), (4, .inl (.int x4))] [] w 0 0
      generalize ku_M_accept rt xt n = K at i_95 ⊢
      refine sf_iload rfl ?_
      refine sf_iconst sf_c4 (fun z1 ez1 => ?_)
      refine sf_iload rfl ?_
      refine sf_imull (n := 4) (by omega) (by omega) (fun v2 ev2 => ?_)
      refine sf_aload rfl ?_
      refine sf_getr I_w rfl rfl ?_
      refine sf_iload rfl ?_
      refine sf_iald I_w rfl (by omega) (fun v3 lv3 uv3 ev3 => ?_)
      rw [sf_ma s_w (p := 104) rfl] at ev3
      refine sf_iadd (by omega) (fun v4 ev4 => ?_)
      refine sf_f2_ge (fun h5 => ?_) (fun h5 => ?_)
      · refine sf_aload rfl ?_
        refine sf_getr I_w rfl rfl ?_
        refine sf_iload rfl ?_
        refine sf_iconst sf_c1 (fun z6 ez6 => ?_)
        refine sf_zast I_w s_w rfl (by omega) (by omega) rfl rfl (fun w7 Iw7 sw7 kw7 uw7 => ?_)
        have c8 := sf_mf kw7 (p := 71) (j := 0) rfl
        have c9 := sf_ma kw7 (p := 117) rfl
        have c10 := sf_mf kw7 (p := 71) (j := 56) rfl
        have c11 := sf_ma kw7 (p := 121) rfl
        have c12 := sf_ma kw7 (p := 122) rfl
        have c13 := sf_ma kw7 (p := 125) rfl
        have c14 := sf_ma kw7 (p := 126) rfl
        have c15 := sf_ma kw7 (p := 113) rfl
        have c16 := sf_mf kw7 (p := 71) (j := 41) rfl
        clear kw7
        have gacc := uw7
        skip
        rw [f_10] at gacc
        have gva : z6.toInt = 1 := by omega
        refine sf_aload rfl ?_
        refine sf_iload rfl ?_
        refine sf_puti Iw7 sw7 rfl rfl (by omega) rfl rfl rfl (fun w17 Iw17 sw17 kw17 uw17 => ?_)
        have c18 := sf_mf kw17 (p := 71) (j := 0) rfl
        have c19 := sf_ma kw17 (p := 117) rfl
        have c20 := sf_mf kw17 (p := 71) (j := 56) rfl
        have c21 := sf_ma kw17 (p := 121) rfl
        have c22 := sf_ma kw17 (p := 122) rfl
        have c23 := sf_ma kw17 (p := 125) rfl
        have c24 := sf_ma kw17 (p := 126) rfl
        have c25 := sf_ma kw17 (p := 113) rfl
        have c26 := sf_ma kw17 (p := 106) rfl
        clear kw17
        refine sf_lload rfl ?_
        refine sf_lreturn rfl rfl ?_
        exact hR _ _ Iw17 sw17 (by rw [c18, c8]; exact Or.inr (Or.inr (Or.inr (Or.inr f_3)))) (by rw [c18, c8]; rw [c20, c10]; rw [c21, c11]; rw [c22, c12]; rw [c23, c13]; rw [c24, c14]; rw [c25, c15]; rw [c26]; rw [uw17]; exact Or.inr ⟨f_3.1, by omega, (by rw [show (sf_a w0 104 a_d.toInt.toNat).toInt.toNat = (x4.toInt - 4 * a_d.toInt).toNat by omega]; exact f_5), (by rw [show (sf_a w0 104 a_d.toInt.toNat).toInt.toNat = (x4.toInt - 4 * a_d.toInt).toNat by omega]; exact f_6), (by rw [show (sf_a w0 104 a_d.toInt.toNat).toInt.toNat = (x4.toInt - 4 * a_d.toInt).toNat by omega]; exact f_7), (by rw [show (sf_a w0 104 a_d.toInt.toNat).toInt.toNat = (x4.toInt - 4 * a_d.toInt).toNat by omega]; exact f_8), (by rw [show (sf_a w0 104 a_d.toInt.toNat).toInt.toNat = (x4.toInt - 4 * a_d.toInt).toNat by omega]; exact f_9), ⟨_, gva, gacc⟩, by omega⟩)
      · refine sf_aload rfl ?_
        refine sf_getr I_w rfl rfl ?_
        refine sf_iload rfl ?_
        refine sf_aload rfl ?_
        refine sf_aload rfl ?_
        refine sf_getr I_w rfl rfl ?_
        refine sf_iload rfl ?_
        refine sf_iald I_w rfl (by omega) (fun v27 lv27 uv27 ev27 => ?_)
        rw [sf_ma s_w (p := 107) rfl] at ev27
        have gg := ev27
        rw [show x4.toInt.toNat = (4 * a_d.toInt).toNat + (x4.toInt - 4 * a_d.toInt).toNat by omega] at gg
        refine sf_aload rfl ?_
        refine sf_getr I_w rfl rfl ?_
        refine sf_iconst sf_c3 (fun z28 ez28 => ?_)
        refine sf_iload rfl ?_
        refine sf_imull (n := 3) (by omega) (by omega) (fun v29 ev29 => ?_)
        refine sf_iald I_w rfl (by omega) (fun v30 lv30 uv30 ev30 => ?_)
        rw [sf_ma s_w (p := 110) rfl] at ev30
        have gu := ev30
        rw [show v29.toInt.toNat = 3 * ((4 * a_d.toInt).toNat + (x4.toInt - 4 * a_d.toInt).toNat) by omega] at gu
        refine sf_aload rfl ?_
        refine sf_getr I_w rfl rfl ?_
        refine sf_iload rfl ?_
        refine sf_lald I_w rfl (by omega) (fun v31 ev31 => ?_)
        clear ev31
        refine sf_aload rfl ?_
        refine sf_getr I_w rfl rfl ?_
        refine sf_iload rfl ?_
        refine sf_zald I_w rfl (by omega) (fun v32 lv32 uv32 ev32 => ?_)
        rw [sf_ma s_w (p := 109) rfl] at ev32
        have gh := ev32
        rw [show x4.toInt.toNat = (4 * a_d.toInt).toNat + (x4.toInt - 4 * a_d.toInt).toNat by omega] at gh
        refine sf_iconst sf_c0 (fun z33 ez33 => ?_)
        refine sf_call6 rfl rfl rfl ?_
        refine sf_rv I_w rfl ?_
        refine sc_M_addLot I_w (by omega) (by omega) (by omega) (by omega) (by omega) (fun v34 w35 Iw35 tw35 lv34 uv34 q36_0 q36_1 q36_2 q36_3 q36_4 q36_5 => ?_)
        have s37 := sf_mt s_w tw35 rfl
        have c38 := sf_mf tw35 (p := 71) (j := 0) rfl
        have c39 := sf_ma tw35 (p := 117) rfl
        have c40 := sf_ma tw35 (p := 113) rfl
        have c41 := sf_ma tw35 (p := 106) rfl
        have c42 := sf_mf tw35 (p := 71) (j := 41) rfl
        have gA0 := q36_2
        have gA1 := q36_3
        have gA2 := q36_4
        have gA3 := q36_5
        have gr := q36_0
        refine sf_iast Iw35 s37 rfl (by omega) (by omega) rfl rfl (fun w43 Iw43 sw43 kw43 uw43 => ?_)
        have c44 := sf_mf kw43 (p := 71) (j := 0) rfl
        have c45 := sf_ma kw43 (p := 117) rfl
        have c46 := sf_mf kw43 (p := 71) (j := 56) rfl
        have c47 := sf_ma kw43 (p := 121) rfl
        have c48 := sf_ma kw43 (p := 122) rfl
        have c49 := sf_ma kw43 (p := 125) rfl
        have c50 := sf_ma kw43 (p := 126) rfl
        have c51 := sf_ma kw43 (p := 106) rfl
        have c52 := sf_mf kw43 (p := 71) (j := 41) rfl
        clear kw43
        have gA4 := uw43
        rw [c40] at gA4
        refine sf_aload rfl ?_
        refine sf_aload rfl ?_
        refine sf_getr Iw43 rfl rfl ?_
        refine sf_iload rfl ?_
        refine sf_zald Iw43 rfl (by omega) (fun v53 lv53 uv53 ev53 => ?_)
        rw [sf_ma sw43 (p := 109) rfl] at ev53
        refine sf_f1_eq (fun h54 => ?_) (fun h54 => ?_)
        · refine sf_aload rfl ?_
          refine sf_getl Iw43 rfl rfl (fun v55 => ?_)
          refine sf_aload rfl ?_
          refine sf_getr Iw43 rfl rfl ?_
          refine sf_iload rfl ?_
          refine sf_lald Iw43 rfl (by omega) (fun v56 ev56 => ?_)
          clear ev56
          refine sf_l2 (fun v57 => ?_)
          refine sf_putl Iw43 sw43 rfl rfl rfl rfl rfl (fun w58 Iw58 sw58 kw58 uw58 => ?_)
          have c59 := sf_mf kw58 (p := 71) (j := 0) rfl
          have c60 := sf_ma kw58 (p := 117) rfl
          have c61 := sf_mf kw58 (p := 71) (j := 56) rfl
          have c62 := sf_ma kw58 (p := 121) rfl
          have c63 := sf_ma kw58 (p := 122) rfl
          have c64 := sf_ma kw58 (p := 125) rfl
          have c65 := sf_ma kw58 (p := 126) rfl
          have c66 := sf_ma kw58 (p := 113) rfl
          have c67 := sf_ma kw58 (p := 106) rfl
          have c68 := sf_mf kw58 (p := 71) (j := 41) rfl
          clear kw58 uw58
          refine sf_iinc (L' := [(0, .inl (.ref 71)), (1, .inl (.int a_d)), (2, .inl (.long x2))]) sf_c1 rfl rfl (by omega) (fun v69 ev69 => ?_)
          refine sf_can (L' := [(0, .inl (.ref 71)), (1, .inl (.int a_d)), (2, .inl (.long x2)), (4, .inl (.int v69))]) rfl ?_
          exact i_95 w58 x2 v69 Iw58 sw58 (by omega) (by omega) (by rw [c61, c46]; omega) (by omega) (by omega) (by rw [c59, c44, c38]; exact f_3) (by rw [c61, c46]; omega) (by rw [c62, c47]; exact sl_WS (n := (x4.toInt - 4 * a_d.toInt).toNat) f_5 (by omega) gA0 (by unfold sl_ix; omega) (sb_eq gg)) (by rw [c63, c48]; exact sl_WS (n := (x4.toInt - 4 * a_d.toInt).toNat) f_6 (by omega) gA1 (by unfold sl_ix; omega) (sb_eq gu)) (by rw [c64, c49]; exact sl_WS (n := (x4.toInt - 4 * a_d.toInt).toNat) f_7 (by omega) gA2 (by unfold sl_ix; omega) (sb_eq gh)) (by rw [c65, c50]; exact sl_WS (n := (x4.toInt - 4 * a_d.toInt).toNat) f_8 (by omega) gA3 (by unfold sl_ix; omega) (sb_eq (show _ = (0 : Int32).toInt by rw [sf_z0]; omega))) (by rw [c66]; exact sl_WS (n := (x4.toInt - 4 * a_d.toInt).toNat) f_9 (by omega) gA4 (by unfold sl_ix; omega) (sl_nke (by omega))) (by rw [c67, c51, c41]; exact f_10) (by omega)
        · refine sf_aload rfl ?_
          refine sf_getl Iw43 rfl rfl (fun v70 => ?_)
          refine sf_putl Iw43 sw43 rfl rfl rfl rfl rfl (fun w71 Iw71 sw71 kw71 uw71 => ?_)
          have c72 := sf_mf kw71 (p := 71) (j := 0) rfl
          have c73 := sf_ma kw71 (p := 117) rfl
          have c74 := sf_mf kw71 (p := 71) (j := 56) rfl
          have c75 := sf_ma kw71 (p := 121) rfl
          have c76 := sf_ma kw71 (p := 122) rfl
          have c77 := sf_ma kw71 (p := 125) rfl
          have c78 := sf_ma kw71 (p := 126) rfl
          have c79 := sf_ma kw71 (p := 113) rfl
          have c80 := sf_ma kw71 (p := 106) rfl
          have c81 := sf_mf kw71 (p := 71) (j := 41) rfl
          clear kw71 uw71
          refine sf_iinc (L' := [(0, .inl (.ref 71)), (1, .inl (.int a_d)), (2, .inl (.long x2))]) sf_c1 rfl rfl (by omega) (fun v82 ev82 => ?_)
          refine sf_can (L' := [(0, .inl (.ref 71)), (1, .inl (.int a_d)), (2, .inl (.long x2)), (4, .inl (.int v82))]) rfl ?_
          exact i_95 w71 x2 v82 Iw71 sw71 (by omega) (by omega) (by rw [c74, c46]; omega) (by omega) (by omega) (by rw [c72, c44, c38]; exact f_3) (by rw [c74, c46]; omega) (by rw [c75, c47]; exact sl_WS (n := (x4.toInt - 4 * a_d.toInt).toNat) f_5 (by omega) gA0 (by unfold sl_ix; omega) (sb_eq gg)) (by rw [c76, c48]; exact sl_WS (n := (x4.toInt - 4 * a_d.toInt).toNat) f_6 (by omega) gA1 (by unfold sl_ix; omega) (sb_eq gu)) (by rw [c77, c49]; exact sl_WS (n := (x4.toInt - 4 * a_d.toInt).toNat) f_7 (by omega) gA2 (by unfold sl_ix; omega) (sb_eq gh)) (by rw [c78, c50]; exact sl_WS (n := (x4.toInt - 4 * a_d.toInt).toNat) f_8 (by omega) gA3 (by unfold sl_ix; omega) (sb_eq (show _ = (0 : Int32).toInt by rw [sf_z0]; omega))) (by rw [c79]; exact sl_WS (n := (x4.toInt - 4 * a_d.toInt).toNat) f_9 (by omega) gA4 (by unfold sl_ix; omega) (sl_nke (by omega))) (by rw [c80, c51, c41]; exact f_10) (by omega)
  have hl1 := hl 1000000000000
  have i_95 := hl1
  clear hl hl1
  refine sf_sp (L := [(0, .inl (.ref 71)), (1, .inl (.int a_d))]) rfl rfl ?_
  generalize ku_M_accept rt xt 1000000000000 = K at i_95 ⊢
  refine sf_aload rfl ?_
  refine sf_aload rfl ?_
  refine sf_iload rfl ?_
  refine sf_call2 rfl rfl rfl ?_
  refine sf_rv hI0 rfl ?_
  refine sf_sp (L := [(0, .inl (.ref 71)), (1, .inl (.int a_d))]) rfl rfl ?_
  refine sf_iload rfl ?_
  refine sf_f1_lt (fun h83 => ?_) (fun h83 => ?_)
  · refine sf_iconst sf_c0 (fun z84 ez84 => ?_)
    refine sf_zreturn (by omega) rfl rfl ?_
    refine sf_f1_eq (fun h85 => ?_) (fun h85 => absurd h85 (by omega))
    refine sf_iconst sf_c1 (fun z86 ez86 => ?_)
    refine sf_puti hI0 hs0 rfl rfl (sf_bd _) rfl rfl rfl (fun w87 Iw87 sw87 kw87 uw87 => ?_)
    have c88 := sf_ma kw87 (p := 117) rfl
    have c89 := sf_mf kw87 (p := 71) (j := 56) rfl
    have c90 := sf_ma kw87 (p := 121) rfl
    have c91 := sf_ma kw87 (p := 122) rfl
    have c92 := sf_ma kw87 (p := 125) rfl
    have c93 := sf_ma kw87 (p := 126) rfl
    have c94 := sf_ma kw87 (p := 113) rfl
    have c95 := sf_ma kw87 (p := 106) rfl
    have c96 := sf_mf kw87 (p := 71) (j := 41) rfl
    clear kw87
    refine sf_aload rfl ?_
    refine sf_geti Iw87 rfl rfl (fun v97 lv97 uv97 ev97 => ?_)
    rw [uw87] at ev97
    refine sf_f1_le (fun h98 => absurd h98 (by omega)) (fun h98 => ?_)
    refine sf_lconst (by decide : (0 : Int64).toInt = 0) (fun z99 ez99 => ?_)
    refine sf_lreturn rfl rfl ?_
    exact hR _ _ Iw87 sw87 (by rw [uw87]; exact Or.inl ⟨by omega, by omega⟩) (by rw [uw87]; rw [c89]; rw [c90]; rw [c91]; rw [c92]; rw [c93]; rw [c94]; rw [c95]; rw [c96]; exact Or.inl ⟨by omega, rfl, rfl, rfl, rfl, rfl, rfl, rfl, rfl⟩)
  · refine sf_iload rfl ?_
    refine sf_aload rfl ?_
    refine sf_geti hI0 rfl rfl (fun v100 lv100 uv100 ev100 => ?_)
    refine sf_f2_ge (fun h101 => ?_) (fun h101 => ?_)
    · refine sf_iconst sf_c0 (fun z102 ez102 => ?_)
      refine sf_zreturn (by omega) rfl rfl ?_
      refine sf_f1_eq (fun h103 => ?_) (fun h103 => absurd h103 (by omega))
      refine sf_iconst sf_c1 (fun z104 ez104 => ?_)
      refine sf_puti hI0 hs0 rfl rfl (sf_bd _) rfl rfl rfl (fun w105 Iw105 sw105 kw105 uw105 => ?_)
      have c106 := sf_ma kw105 (p := 117) rfl
      have c107 := sf_mf kw105 (p := 71) (j := 56) rfl
      have c108 := sf_ma kw105 (p := 121) rfl
      have c109 := sf_ma kw105 (p := 122) rfl
      have c110 := sf_ma kw105 (p := 125) rfl
      have c111 := sf_ma kw105 (p := 126) rfl
      have c112 := sf_ma kw105 (p := 113) rfl
      have c113 := sf_ma kw105 (p := 106) rfl
      have c114 := sf_mf kw105 (p := 71) (j := 41) rfl
      clear kw105
      refine sf_aload rfl ?_
      refine sf_geti Iw105 rfl rfl (fun v115 lv115 uv115 ev115 => ?_)
      rw [uw105] at ev115
      refine sf_f1_le (fun h116 => absurd h116 (by omega)) (fun h116 => ?_)
      refine sf_lconst (by decide : (0 : Int64).toInt = 0) (fun z117 ez117 => ?_)
      refine sf_lreturn rfl rfl ?_
      exact hR _ _ Iw105 sw105 (by rw [uw105]; exact Or.inl ⟨by omega, by omega⟩) (by rw [uw105]; rw [c107]; rw [c108]; rw [c109]; rw [c110]; rw [c111]; rw [c112]; rw [c113]; rw [c114]; exact Or.inl ⟨by omega, rfl, rfl, rfl, rfl, rfl, rfl, rfl, rfl⟩)
    · refine sf_iconst sf_c1 (fun z118 ez118 => ?_)
      refine sf_zreturn (by omega) rfl rfl ?_
      refine sf_f1_eq (fun h119 => absurd h119 (by omega)) (fun h119 => ?_)
      refine sf_aload rfl ?_
      refine sf_getr hI0 rfl rfl ?_
      refine sf_iload rfl ?_
      refine sf_zald hI0 rfl (by omega) (fun v120 lv120 uv120 ev120 => ?_)
      refine sf_f1_eq (fun h121 => ?_) (fun h121 => ?_)
      · refine sf_aload rfl ?_
        refine sf_iload rfl ?_
        refine sf_call2 rfl rfl rfl ?_
        refine sf_rv hI0 rfl ?_
        refine sc_M_isLate hI0 (by omega) (by omega) (fun v122 lv122 uv122 q123_0 => ?_)
        have gla := q123_0
        refine sf_f1_eq (fun h124 => ?_) (fun h124 => ?_)
        · refine sf_aload rfl ?_
          refine sf_iload rfl ?_
          refine sf_call2 rfl rfl rfl ?_
          refine sf_rv hI0 rfl ?_
          refine sc_M_find_K hI0 (by omega) (by omega) (by exact p0) (fun v125 w126 Iw126 tw126 lv125 uv125 q127_0 q127_1 => ?_)
          have s128 := sf_mt hs0 tw126 rfl
          have c129 := sf_mf tw126 (p := 71) (j := 0) rfl
          have c130 := sf_mf tw126 (p := 71) (j := 56) rfl
          have c131 := sf_ma tw126 (p := 121) rfl
          have c132 := sf_ma tw126 (p := 122) rfl
          have c133 := sf_ma tw126 (p := 125) rfl
          have c134 := sf_ma tw126 (p := 126) rfl
          have c135 := sf_ma tw126 (p := 113) rfl
          have c136 := sf_ma tw126 (p := 106) rfl
          have c137 := sf_mf tw126 (p := 71) (j := 41) rfl
          have r2 := q127_0
          rw [sf_ma s128 (p := 104) rfl] at r2
          have gca := q127_1
          refine sf_f1_eq (fun h138 => ?_) (fun h138 => ?_)
          · refine sf_iconst sf_c3 (fun z139 ez139 => ?_)
            refine sf_puti Iw126 s128 rfl rfl (sf_bd _) rfl rfl rfl (fun w140 Iw140 sw140 kw140 uw140 => ?_)
            have c141 := sf_ma kw140 (p := 117) rfl
            have c142 := sf_mf kw140 (p := 71) (j := 56) rfl
            have c143 := sf_ma kw140 (p := 121) rfl
            have c144 := sf_ma kw140 (p := 122) rfl
            have c145 := sf_ma kw140 (p := 125) rfl
            have c146 := sf_ma kw140 (p := 126) rfl
            have c147 := sf_ma kw140 (p := 113) rfl
            have c148 := sf_ma kw140 (p := 106) rfl
            have c149 := sf_mf kw140 (p := 71) (j := 41) rfl
            clear kw140
            refine sf_aload rfl ?_
            refine sf_geti Iw140 rfl rfl (fun v150 lv150 uv150 ev150 => ?_)
            rw [uw140] at ev150
            refine sf_f1_le (fun h151 => absurd h151 (by omega)) (fun h151 => ?_)
            refine sf_lconst (by decide : (0 : Int64).toInt = 0) (fun z152 ez152 => ?_)
            refine sf_lreturn rfl rfl ?_
            exact hR _ _ Iw140 sw140 (by rw [uw140]; exact Or.inr (Or.inr (Or.inl ⟨by omega, by omega, by omega, (fun h => absurd (gla.mpr h) (by omega)), (fun h => absurd (gca.mpr h) (by omega))⟩))) (by rw [uw140]; rw [c142, c130]; rw [c143, c131]; rw [c144, c132]; rw [c145, c133]; rw [c146, c134]; rw [c147, c135]; rw [c148, c136]; rw [c149, c137]; exact Or.inl ⟨by omega, rfl, rfl, rfl, rfl, rfl, rfl, rfl, rfl⟩)
          · refine sf_aload rfl ?_
            refine sf_geti Iw126 rfl rfl (fun v153 lv153 uv153 ev153 => ?_)
            rw [c130] at ev153
            refine sf_aload rfl ?_
            refine sf_getr Iw126 rfl rfl ?_
            refine sf_iload rfl ?_
            refine sf_iald Iw126 rfl (by omega) (fun v154 lv154 uv154 ev154 => ?_)
            rw [sf_ma s128 (p := 104) rfl] at ev154
            refine sf_iadd (by omega) (fun v155 ev155 => ?_)
            refine sf_iconst sf_c40 (fun z156 ez156 => ?_)
            refine sf_f2_le (fun h157 => ?_) (fun h157 => ?_)
            · refine sf_iconst sf_c0 (fun z158 ez158 => ?_)
              refine sf_puti Iw126 s128 rfl rfl (sf_bd _) rfl rfl rfl (fun w159 Iw159 sw159 kw159 uw159 => ?_)
              have c160 := sf_ma kw159 (p := 117) rfl
              have c161 := sf_mf kw159 (p := 71) (j := 56) rfl
              have c162 := sf_ma kw159 (p := 121) rfl
              have c163 := sf_ma kw159 (p := 122) rfl
              have c164 := sf_ma kw159 (p := 125) rfl
              have c165 := sf_ma kw159 (p := 126) rfl
              have c166 := sf_ma kw159 (p := 113) rfl
              have c167 := sf_ma kw159 (p := 106) rfl
              have c168 := sf_mf kw159 (p := 71) (j := 41) rfl
              clear kw159
              refine sf_aload rfl ?_
              refine sf_geti Iw159 rfl rfl (fun v169 lv169 uv169 ev169 => ?_)
              rw [uw159] at ev169
              refine sf_f1_le (fun h170 => ?_) (fun h170 => absurd h170 (by omega))
              refine sf_aload rfl ?_
              refine sf_iload rfl ?_
              refine sf_call2 rfl rfl rfl ?_
              refine sf_rv Iw159 rfl ?_
              refine sc_M_assess Iw159 (by omega) (by omega) (by rw [sf_ma sw159 (p := 104) rfl]; rw [c160]; exact r2 (by omega)) (fun v171 w172 Iw172 tw172 => ?_)
              have s174 := sf_mt sw159 tw172 rfl
              have c175 := sf_mf tw172 (p := 71) (j := 0) rfl
              have c176 := sf_ma tw172 (p := 117) rfl
              have c177 := sf_mf tw172 (p := 71) (j := 56) rfl
              have c178 := sf_ma tw172 (p := 121) rfl
              have c179 := sf_ma tw172 (p := 122) rfl
              have c180 := sf_ma tw172 (p := 125) rfl
              have c181 := sf_ma tw172 (p := 126) rfl
              have c182 := sf_ma tw172 (p := 113) rfl
              have c183 := sf_ma tw172 (p := 106) rfl
              have c184 := sf_mf tw172 (p := 71) (j := 41) rfl
              refine sf_lstore (L' := [(0, .inl (.ref 71)), (1, .inl (.int a_d))]) rfl ?_
              refine sf_aload rfl ?_
              refine sf_iload rfl ?_
              refine sf_call2 rfl rfl rfl ?_
              refine sf_rv Iw172 rfl ?_
              refine sc_M_book Iw172 (by omega) (by omega) (fun w185 Iw185 tw185 => ?_)
              have s187 := sf_mt s174 tw185 rfl
              have c188 := sf_mf tw185 (p := 71) (j := 0) rfl
              have c189 := sf_ma tw185 (p := 117) rfl
              have c190 := sf_mf tw185 (p := 71) (j := 56) rfl
              have c191 := sf_ma tw185 (p := 121) rfl
              have c192 := sf_ma tw185 (p := 122) rfl
              have c193 := sf_ma tw185 (p := 125) rfl
              have c194 := sf_ma tw185 (p := 126) rfl
              have c195 := sf_ma tw185 (p := 113) rfl
              have c196 := sf_ma tw185 (p := 106) rfl
              have c197 := sf_mf tw185 (p := 71) (j := 41) rfl
              refine sf_iconst sf_c4 (fun z198 ez198 => ?_)
              refine sf_iload rfl ?_
              refine sf_imull (n := 4) (by omega) (by omega) (fun v199 ev199 => ?_)
              refine sf_istore (L' := [(2, .inl (.long v171)), (0, .inl (.ref 71)), (1, .inl (.int a_d))]) rfl ?_
              refine sf_can (L' := [(0, .inl (.ref 71)), (1, .inl (.int a_d)), (2, .inl (.long v171)), (4, .inl (.int v199))]) rfl ?_
              exact i_95 w185 v171 v199 Iw185 s187 (by omega) (by omega) (by rw [c190, c177, c161, c130]; omega) (by omega) (by omega) (by rw [c188, c175, uw159]; exact ⟨by omega, by omega, by omega, (fun h => absurd (gla.mpr h) (by omega)), gca.mp (by omega), by omega⟩) (by rw [c190, c177, c161, c130]; omega) (by rw [c191, c178, c162, c131]; exact sl_W0 rfl (by omega)) (by rw [c192, c179, c163, c132]; exact sl_W0 rfl (by omega)) (by rw [c193, c180, c164, c133]; exact sl_W0 rfl (by omega)) (by rw [c194, c181, c165, c134]; exact sl_W0 rfl (by omega)) (by rw [c195, c182, c166, c135]; exact sl_W0 rfl (by omega)) (by rw [c196, c183, c167, c136]; try rfl) (by omega)
            · refine sf_iconst sf_c4 (fun z200 ez200 => ?_)
              refine sf_puti Iw126 s128 rfl rfl (sf_bd _) rfl rfl rfl (fun w201 Iw201 sw201 kw201 uw201 => ?_)
              have c202 := sf_ma kw201 (p := 117) rfl
              have c203 := sf_mf kw201 (p := 71) (j := 56) rfl
              have c204 := sf_ma kw201 (p := 121) rfl
              have c205 := sf_ma kw201 (p := 122) rfl
              have c206 := sf_ma kw201 (p := 125) rfl
              have c207 := sf_ma kw201 (p := 126) rfl
              have c208 := sf_ma kw201 (p := 113) rfl
              have c209 := sf_ma kw201 (p := 106) rfl
              have c210 := sf_mf kw201 (p := 71) (j := 41) rfl
              clear kw201
              refine sf_aload rfl ?_
              refine sf_geti Iw201 rfl rfl (fun v211 lv211 uv211 ev211 => ?_)
              rw [uw201] at ev211
              refine sf_f1_le (fun h212 => absurd h212 (by omega)) (fun h212 => ?_)
              refine sf_lconst (by decide : (0 : Int64).toInt = 0) (fun z213 ez213 => ?_)
              refine sf_lreturn rfl rfl ?_
              exact hR _ _ Iw201 sw201 (by rw [uw201]; exact Or.inr (Or.inr (Or.inr (Or.inl ⟨by omega, by omega, by omega, (fun h => absurd (gla.mpr h) (by omega)), gca.mp (by omega), by omega⟩)))) (by rw [uw201]; rw [c203, c130]; rw [c204, c131]; rw [c205, c132]; rw [c206, c133]; rw [c207, c134]; rw [c208, c135]; rw [c209, c136]; rw [c210, c137]; exact Or.inl ⟨by omega, rfl, rfl, rfl, rfl, rfl, rfl, rfl, rfl⟩)
        · refine sf_iconst sf_c2 (fun z214 ez214 => ?_)
          refine sf_puti hI0 hs0 rfl rfl (sf_bd _) rfl rfl rfl (fun w215 Iw215 sw215 kw215 uw215 => ?_)
          have c216 := sf_ma kw215 (p := 117) rfl
          have c217 := sf_mf kw215 (p := 71) (j := 56) rfl
          have c218 := sf_ma kw215 (p := 121) rfl
          have c219 := sf_ma kw215 (p := 122) rfl
          have c220 := sf_ma kw215 (p := 125) rfl
          have c221 := sf_ma kw215 (p := 126) rfl
          have c222 := sf_ma kw215 (p := 113) rfl
          have c223 := sf_ma kw215 (p := 106) rfl
          have c224 := sf_mf kw215 (p := 71) (j := 41) rfl
          clear kw215
          refine sf_aload rfl ?_
          refine sf_geti Iw215 rfl rfl (fun v225 lv225 uv225 ev225 => ?_)
          rw [uw215] at ev225
          refine sf_f1_le (fun h226 => absurd h226 (by omega)) (fun h226 => ?_)
          refine sf_lconst (by decide : (0 : Int64).toInt = 0) (fun z227 ez227 => ?_)
          refine sf_lreturn rfl rfl ?_
          exact hR _ _ Iw215 sw215 (by rw [uw215]; exact Or.inr (Or.inl ⟨by omega, by omega, Or.inr (gla.mp (by omega))⟩)) (by rw [uw215]; rw [c217]; rw [c218]; rw [c219]; rw [c220]; rw [c221]; rw [c222]; rw [c223]; rw [c224]; exact Or.inl ⟨by omega, rfl, rfl, rfl, rfl, rfl, rfl, rfl, rfl⟩)
      · refine sf_iconst sf_c2 (fun z228 ez228 => ?_)
        refine sf_puti hI0 hs0 rfl rfl (sf_bd _) rfl rfl rfl (fun w229 Iw229 sw229 kw229 uw229 => ?_)
        have c230 := sf_ma kw229 (p := 117) rfl
        have c231 := sf_mf kw229 (p := 71) (j := 56) rfl
        have c232 := sf_ma kw229 (p := 121) rfl
        have c233 := sf_ma kw229 (p := 122) rfl
        have c234 := sf_ma kw229 (p := 125) rfl
        have c235 := sf_ma kw229 (p := 126) rfl
        have c236 := sf_ma kw229 (p := 113) rfl
        have c237 := sf_ma kw229 (p := 106) rfl
        have c238 := sf_mf kw229 (p := 71) (j := 41) rfl
        clear kw229
        refine sf_aload rfl ?_
        refine sf_geti Iw229 rfl rfl (fun v239 lv239 uv239 ev239 => ?_)
        rw [uw229] at ev239
        refine sf_f1_le (fun h240 => absurd h240 (by omega)) (fun h240 => ?_)
        refine sf_lconst (by decide : (0 : Int64).toInt = 0) (fun z241 ez241 => ?_)
        refine sf_lreturn rfl rfl ?_
        exact hR _ _ Iw229 sw229 (by rw [uw229]; exact Or.inr (Or.inl ⟨by omega, by omega, Or.inl (by omega)⟩)) (by rw [uw229]; rw [c231]; rw [c232]; rw [c233]; rw [c234]; rw [c235]; rw [c236]; rw [c237]; rw [c238]; exact Or.inl ⟨by omega, rfl, rfl, rfl, rfl, rfl, rfl, rfl, rfl⟩)
def sm_M_amend : List Nat := [71, 91, 92, 110, 111, 112, 114, 115, 116, 117, 118, 119, 120, 122, 124, 8100, 8166]
set_option maxRecDepth 100000 in
set_option maxHeartbeats 4000000 in
theorem sc_M_amend {w0 : wq_W} (hI0 : sf_I w0) {rt : Option wq_V → wq_W → Prop} {xt : Nat → wq_W → Prop} {a_d : Int32} {a_l : Int32} {a_field : Int32} {a_v : Int32} (p0 : sf_J (sf_a w0 3) (sf_a w0 72) (sf_f w0 71 1).toInt) (hR : ∀ (r : Int64) (w : wq_W), sf_I w → sf_m sm_M_amend w0 w → (sl_cm (sf_f w 71 0).toInt (0 ≤ a_d.toInt ∧ a_d.toInt < (sf_f w0 71 35).toInt ∧ 0 ≤ a_l.toInt ∧ a_l.toInt < (sf_a w0 104 a_d.toInt.toNat).toInt ∧ ((a_field.toInt = 0 ∧ 1 ≤ a_v.toInt ∧ a_v.toInt ≤ 1000) ∨ (a_field.toInt = 1 ∧ 0 ≤ a_v.toInt ∧ a_v.toInt ≤ 1000000) ∨ (a_field.toInt = 2 ∧ 0 ≤ a_v.toInt ∧ a_v.toInt ≤ 100000000))) ((sf_a w0 106 a_d.toInt.toNat).toInt = 1 ∧ ∀ j : Nat, (j : Int) < (sf_a w0 104 a_d.toInt.toNat).toInt → (sf_a w0 123 (sl_iy (sf_a w0 113) (4 * a_d.toInt).toNat j)).toInt = 0) (sc_ok (sc_rm (sc_b (sf_a w0 72) (sf_a w0 75) (sf_a w0 76) (sf_a w0 77) (sf_a w0 78) (sf_a w0 3) (sp_aa (sf_a w0 93)) (sf_f w0 71 5).toInt (sf_f w0 71 1).toInt) (sf_a w0 72) (sf_a w0 79) (sf_a w0 80) (sf_a w0 84) (sf_a w0 85) (sf_f w0 71 10).toInt (sf_a w0 107) (sf_a w0 108) (sf_a w0 102 a_d.toInt.toNat).toInt (4 * a_d.toInt).toNat) (sf_a w0 104 a_d.toInt.toNat).toInt)) → ((((sf_f w 71 0).toInt ≠ 0 ∧ sf_a w 110 = sf_a w0 110) ∨ ((sf_f w 71 0).toInt = 0 ∧ sl_UM (sf_a w0 110) (sf_a w 110) (4 * a_d.toInt + a_l.toInt) a_field.toInt a_v))) → ((((sf_f w 71 0).toInt ≠ 0 ∧ sf_a w 122 = sf_a w0 122) ∨ ((sf_f w 71 0).toInt = 0 ∧ sf_a w 122 = sl_W (sf_a w0 122) (sl_iy (sf_a w0 113) (4 * a_d.toInt).toNat) (sl_s3 (sf_a w 110) (4 * a_d.toInt).toNat) (sf_a w0 104 a_d.toInt.toNat).toInt.toNat))) → rt (some (.inl (.long r))) w) : ks_M_amend [.inl (.ref 71), .inl (.int a_d), .inl (.int a_l), .inl (.int a_field), .inl (.int a_v)] w0 rt xt := by
  have hs0 : sf_m sm_M_amend w0 w0 := sf_m0
  have hl : ∀ n : Nat, (∀ (w : wq_W) (x5 : Int64) (x7 : Int32), (sf_I w) → (sf_m sm_M_amend w0 w) → (0 ≤ x7.toInt) → (x7.toInt ≤ 4) → (0 ≤ a_d.toInt) → (a_d.toInt ≤ 11) → (∀ k : Nat, (k : Int) < (sf_a w0 104 a_d.toInt.toNat).toInt → 0 ≤ (sf_a w 117 k).toInt) → ((sf_f w 71 0).toInt = 0 ∧ (0 ≤ a_d.toInt ∧ a_d.toInt < (sf_f w0 71 35).toInt ∧ 0 ≤ a_l.toInt ∧ a_l.toInt < (sf_a w0 104 a_d.toInt.toNat).toInt ∧ ((a_field.toInt = 0 ∧ 1 ≤ a_v.toInt ∧ a_v.toInt ≤ 1000) ∨ (a_field.toInt = 1 ∧ 0 ≤ a_v.toInt ∧ a_v.toInt ≤ 1000000) ∨ (a_field.toInt = 2 ∧ 0 ≤ a_v.toInt ∧ a_v.toInt ≤ 100000000))) ∧ ((sf_a w0 106 a_d.toInt.toNat).toInt = 1 ∧ ∀ j : Nat, (j : Int) < (sf_a w0 104 a_d.toInt.toNat).toInt → (sf_a w0 123 (sl_iy (sf_a w0 113) (4 * a_d.toInt).toNat j)).toInt = 0) ∧ (sc_ok (sc_rm (sc_b (sf_a w0 72) (sf_a w0 75) (sf_a w0 76) (sf_a w0 77) (sf_a w0 78) (sf_a w0 3) (sp_aa (sf_a w0 93)) (sf_f w0 71 5).toInt (sf_f w0 71 1).toInt) (sf_a w0 72) (sf_a w0 79) (sf_a w0 80) (sf_a w0 84) (sf_a w0 85) (sf_f w0 71 10).toInt (sf_a w0 107) (sf_a w0 108) (sf_a w0 102 a_d.toInt.toNat).toInt (4 * a_d.toInt).toNat) (sf_a w0 104 a_d.toInt.toNat).toInt)) → (sl_UM (sf_a w0 110) (sf_a w 110) (4 * a_d.toInt + a_l.toInt) a_field.toInt a_v) → (sf_a w 122 = sf_a w0 122) → (1000 - x7.toInt < (n : Int)) → ku_M_amend rt xt n 95 [(0, .inl (.ref 71)), (1, .inl (.int a_d)), (5, .inl (.long x5)), (7, .inl (.int x7))] [] w 0 0) ∧ (∀ (w : wq_W) (x5 : Int64) (x7 : Int64) (x9 : Int32), (sf_I w) → (sf_m sm_M_amend w0 w) → (0 ≤ x9.toInt) → (x9.toInt ≤ 48) → (0 ≤ a_d.toInt) → (a_d.toInt ≤ 11) → ((sf_f w 71 0).toInt = 0 ∧ (0 ≤ a_d.toInt ∧ a_d.toInt < (sf_f w0 71 35).toInt ∧ 0 ≤ a_l.toInt ∧ a_l.toInt < (sf_a w0 104 a_d.toInt.toNat).toInt ∧ ((a_field.toInt = 0 ∧ 1 ≤ a_v.toInt ∧ a_v.toInt ≤ 1000) ∨ (a_field.toInt = 1 ∧ 0 ≤ a_v.toInt ∧ a_v.toInt ≤ 1000000) ∨ (a_field.toInt = 2 ∧ 0 ≤ a_v.toInt ∧ a_v.toInt ≤ 100000000))) ∧ ((sf_a w0 106 a_d.toInt.toNat).toInt = 1 ∧ ∀ j : Nat, (j : Int) < (sf_a w0 104 a_d.toInt.toNat).toInt → (sf_a w0 123 (sl_iy (sf_a w0 113) (4 * a_d.toInt).toNat j)).toInt = 0) ∧ (sc_ok (sc_rm (sc_b (sf_a w0 72) (sf_a w0 75) (sf_a w0 76) (sf_a w0 77) (sf_a w0 78) (sf_a w0 3) (sp_aa (sf_a w0 93)) (sf_f w0 71 5).toInt (sf_f w0 71 1).toInt) (sf_a w0 72) (sf_a w0 79) (sf_a w0 80) (sf_a w0 84) (sf_a w0 85) (sf_f w0 71 10).toInt (sf_a w0 107) (sf_a w0 108) (sf_a w0 102 a_d.toInt.toNat).toInt (4 * a_d.toInt).toNat) (sf_a w0 104 a_d.toInt.toNat).toInt)) → (sl_UM (sf_a w0 110) (sf_a w 110) (4 * a_d.toInt + a_l.toInt) a_field.toInt a_v) → (sf_a w 122 = sl_W (sf_a w0 122) (sl_iy (sf_a w0 113) (4 * a_d.toInt).toNat) (sl_s3 (sf_a w 110) (4 * a_d.toInt).toNat) (x9.toInt - 4 * a_d.toInt).toNat) → (4 * a_d.toInt ≤ x9.toInt ∧ x9.toInt ≤ 4 * a_d.toInt + (sf_a w0 104 a_d.toInt.toNat).toInt) → (48 - x9.toInt < (n : Int)) → ku_M_amend rt xt n 297 [(0, .inl (.ref 71)), (1, .inl (.int a_d)), (5, .inl (.long x5)), (7, .inl (.long x7)), (9, .inl (.int x9))] [] w 0 0) := by
    intro n
    induction n with
    | zero =>
      refine ⟨?_, ?_⟩
      · intros; omega
      · intros; omega
    | succ n ih =>
      obtain ⟨i_95, i_297⟩ := ih
      refine ⟨?_, ?_⟩
      · intro w x5 x7 I_w s_w l_x7 u_x7 f_0 f_1 f_2 f_3 f_4 f_5 hm
        show kh_M_amend_95 rt xt (ku_M_amend rt xt n) [(0, .inl (.ref 71)), (1, .inl (.int a_d)), (5, .inl (.long x5)), (7, .inl (.int x7))] [] w 0 0
        generalize ku_M_amend rt xt n = K at i_95 i_297 ⊢
        refine sf_iload rfl ?_
        refine sf_aload rfl ?_
        refine sf_getr I_w rfl rfl ?_
        refine sf_iload rfl ?_
        refine sf_iald I_w rfl (by omega) (fun v1 lv1 uv1 ev1 => ?_)
        rw [sf_ma s_w (p := 104) rfl] at ev1
        refine sf_f2_ge (fun h2 => ?_) (fun h2 => ?_)
        · refine sf_aload rfl ?_
          refine sf_iload rfl ?_
          refine sf_call2 rfl rfl rfl ?_
          refine sf_rv I_w rfl ?_
          refine sc_M_workOut I_w (by omega) (by omega) (by rw [sf_ma s_w (p := 104) rfl]; exact f_2) (fun v3 w4 Iw4 tw4 => ?_)
          have s6 := sf_mt s_w tw4 rfl
          have c7 := sf_mf tw4 (p := 71) (j := 0) rfl
          have c8 := sf_ma tw4 (p := 117) rfl
          have c9 := sf_ma tw4 (p := 110) rfl
          have c10 := sf_ma tw4 (p := 122) rfl
          refine sf_lstore (L' := [(0, .inl (.ref 71)), (1, .inl (.int a_d)), (5, .inl (.long x5))]) rfl ?_
          refine sf_aload rfl ?_
          refine sf_iload rfl ?_
          refine sf_call2 rfl rfl rfl ?_
          refine sf_rv Iw4 rfl ?_
          refine sc_M_book Iw4 (by omega) (by omega) (fun w11 Iw11 tw11 => ?_)
          have s13 := sf_mt s6 tw11 rfl
          have c14 := sf_mf tw11 (p := 71) (j := 0) rfl
          have c15 := sf_ma tw11 (p := 117) rfl
          have c16 := sf_ma tw11 (p := 110) rfl
          have c17 := sf_ma tw11 (p := 122) rfl
          refine sf_iconst sf_c4 (fun z18 ez18 => ?_)
          refine sf_iload rfl ?_
          refine sf_imull (n := 4) (by omega) (by omega) (fun v19 ev19 => ?_)
          refine sf_istore (L' := [(7, .inl (.long v3)), (0, .inl (.ref 71)), (1, .inl (.int a_d)), (5, .inl (.long x5))]) rfl ?_
          refine sf_can (L' := [(0, .inl (.ref 71)), (1, .inl (.int a_d)), (5, .inl (.long x5)), (7, .inl (.long v3)), (9, .inl (.int v19))]) rfl ?_
          exact i_297 w11 x5 v3 v19 Iw11 s13 (by omega) (by omega) (by omega) (by omega) (by rw [c14, c7]; exact f_3) (by rw [c16, c9]; exact f_4) (by rw [c17, c10]; rw [f_5]; exact sl_W0 rfl (by omega)) (by omega) (by omega)
        · refine sf_iconst sf_c4 (fun z20 ez20 => ?_)
          refine sf_iload rfl ?_
          refine sf_imull (n := 4) (by omega) (by omega) (fun v21 ev21 => ?_)
          refine sf_iload rfl ?_
          refine sf_iadd (by omega) (fun v22 ev22 => ?_)
          refine sf_istore (L' := [(0, .inl (.ref 71)), (1, .inl (.int a_d)), (5, .inl (.long x5)), (7, .inl (.int x7))]) rfl ?_
          refine sf_lload rfl ?_
          refine sf_aload rfl ?_
          refine sf_getr I_w rfl rfl ?_
          refine sf_iload rfl ?_
          refine sf_lald I_w rfl (by omega) (fun v23 ev23 => ?_)
          clear ev23
          refine sf_l2 (fun v24 => ?_)
          refine sf_lstore (L' := [(8, .inl (.int v22)), (0, .inl (.ref 71)), (1, .inl (.int a_d)), (7, .inl (.int x7))]) rfl ?_
          refine sf_aload rfl ?_
          refine sf_aload rfl ?_
          refine sf_getr I_w rfl rfl ?_
          refine sf_iload rfl ?_
          refine sf_zald I_w rfl (by omega) (fun v25 lv25 uv25 ev25 => ?_)
          clear ev25
          refine sf_f1_eq (fun h26 => ?_) (fun h26 => ?_)
          · refine sf_aload rfl ?_
            refine sf_getl I_w rfl rfl (fun v27 => ?_)
            refine sf_aload rfl ?_
            refine sf_getr I_w rfl rfl ?_
            refine sf_iload rfl ?_
            refine sf_lald I_w rfl (by omega) (fun v28 ev28 => ?_)
            clear ev28
            refine sf_l2 (fun v29 => ?_)
            refine sf_putl I_w s_w rfl rfl rfl rfl rfl (fun w30 Iw30 sw30 kw30 uw30 => ?_)
            have c31 := sf_mf kw30 (p := 71) (j := 0) rfl
            have c32 := sf_ma kw30 (p := 117) rfl
            have c33 := sf_ma kw30 (p := 110) rfl
            have c34 := sf_ma kw30 (p := 122) rfl
            clear kw30 uw30
            refine sf_aload rfl ?_
            refine sf_getr Iw30 rfl rfl ?_
            refine sf_iload rfl ?_
            refine sf_iald Iw30 rfl (by omega) (fun v35 lv35 uv35 ev35 => ?_)
            refine sf_aload rfl ?_
            refine sf_getr Iw30 rfl rfl ?_
            refine sf_iload rfl ?_
            refine sf_iald Iw30 rfl (by omega) (fun v36 lv36 uv36 ev36 => ?_)
            refine sf_f2_eq (fun h37 => ?_) (fun h37 => ?_)
            · refine sf_aload rfl ?_
              refine sf_getr Iw30 rfl rfl ?_
              refine sf_iload rfl ?_
              refine sf_iald Iw30 rfl (by omega) (fun v38 lv38 uv38 ev38 => ?_)
              clear lv38 uv38
              clear ev38
              refine sf_aload rfl ?_
              refine sf_getr Iw30 rfl rfl ?_
              refine sf_iconst sf_c3 (fun z39 ez39 => ?_)
              refine sf_iload rfl ?_
              refine sf_imull (n := 3) (by omega) (by omega) (fun v40 ev40 => ?_)
              refine sf_iald Iw30 rfl (by omega) (fun v41 lv41 uv41 ev41 => ?_)
              rw [c33] at ev41
              skip
              refine sf_f2_ge (fun h42 => ?_) (fun h42 => ?_)
              · refine sf_aload rfl ?_
                refine sf_getr Iw30 rfl rfl ?_
                refine sf_iconst sf_c3 (fun z43 ez43 => ?_)
                refine sf_iload rfl ?_
                refine sf_imull (n := 3) (by omega) (by omega) (fun v44 ev44 => ?_)
                refine sf_iald Iw30 rfl (by omega) (fun v45 lv45 uv45 ev45 => ?_)
                rw [c33] at ev45
                skip
                refine sf_istore (L' := [(5, .inl (.long v24)), (8, .inl (.int v22)), (0, .inl (.ref 71)), (1, .inl (.int a_d)), (7, .inl (.int x7))]) rfl ?_
                refine sf_aload rfl ?_
                refine sf_getr Iw30 rfl rfl ?_
                refine sf_iload rfl ?_
                refine sf_iald Iw30 rfl (by omega) (fun v46 lv46 uv46 ev46 => ?_)
                refine sf_f1_lt (fun h47 => ?_) (fun h47 => ?_)
                · refine sf_aload rfl ?_
                  refine sf_getr Iw30 rfl rfl ?_
                  refine sf_iload rfl ?_
                  refine sf_iload rfl ?_
                  refine sf_iast Iw30 sw30 rfl (by omega) (sf_bd _) rfl rfl (fun w48 Iw48 sw48 kw48 uw48 => ?_)
                  have c49 := sf_mf kw48 (p := 71) (j := 0) rfl
                  have c50 := sf_ma kw48 (p := 117) rfl
                  have c51 := sf_ma kw48 (p := 110) rfl
                  have c52 := sf_ma kw48 (p := 122) rfl
                  clear kw48 uw48
                  refine sf_iinc (L' := [(9, .inl (.int v45)), (5, .inl (.long v24)), (8, .inl (.int v22)), (0, .inl (.ref 71)), (1, .inl (.int a_d))]) sf_c1 rfl rfl (by omega) (fun v53 ev53 => ?_)
                  refine sf_can (L' := [(0, .inl (.ref 71)), (1, .inl (.int a_d)), (5, .inl (.long v24)), (7, .inl (.int v53))]) rfl ?_
                  exact i_95 w48 v24 v53 Iw48 sw48 (by omega) (by omega) (by omega) (by omega) (by rw [c50, c32]; first | exact f_2 | exact r2 (by omega)) (by rw [c49, c31]; exact f_3) (by rw [c51, c33]; exact f_4) (by rw [c52, c34]; exact f_5) (by omega)
                · refine sf_aload rfl ?_
                  refine sf_getr Iw30 rfl rfl ?_
                  refine sf_aload rfl ?_
                  refine sf_getr Iw30 rfl rfl ?_
                  refine sf_iload rfl ?_
                  refine sf_iald Iw30 rfl (by omega) (fun v54 lv54 uv54 ev54 => ?_)
                  refine sf_aload rfl ?_
                  refine sf_getr Iw30 rfl rfl ?_
                  refine sf_aload rfl ?_
                  refine sf_getr Iw30 rfl rfl ?_
                  refine sf_iload rfl ?_
                  refine sf_iald Iw30 rfl (by omega) (fun v55 lv55 uv55 ev55 => ?_)
                  refine sf_iald Iw30 rfl (by omega) (fun v56 lv56 uv56 ev56 => ?_)
                  clear lv56 uv56
                  clear ev56
                  refine sf_aload rfl ?_
                  refine sf_getr Iw30 rfl rfl ?_
                  refine sf_iload rfl ?_
                  refine sf_iald Iw30 rfl (by omega) (fun v57 lv57 uv57 ev57 => ?_)
                  clear lv57 uv57
                  clear ev57
                  refine sf_i2 (fun v58 => ?_)
                  refine sf_iload rfl ?_
                  refine sf_i2 (fun v59 => ?_)
                  refine sf_iast Iw30 sw30 rfl (by omega) (sf_bd _) rfl rfl (fun w60 Iw60 sw60 kw60 uw60 => ?_)
                  have c61 := sf_mf kw60 (p := 71) (j := 0) rfl
                  have c62 := sf_ma kw60 (p := 117) rfl
                  have c63 := sf_ma kw60 (p := 110) rfl
                  have c64 := sf_ma kw60 (p := 122) rfl
                  clear kw60 uw60
                  refine sf_aload rfl ?_
                  refine sf_getr Iw60 rfl rfl ?_
                  refine sf_iload rfl ?_
                  refine sf_iload rfl ?_
                  refine sf_iast Iw60 sw60 rfl (by omega) (sf_bd _) rfl rfl (fun w65 Iw65 sw65 kw65 uw65 => ?_)
                  have c66 := sf_mf kw65 (p := 71) (j := 0) rfl
                  have c67 := sf_ma kw65 (p := 117) rfl
                  have c68 := sf_ma kw65 (p := 110) rfl
                  have c69 := sf_ma kw65 (p := 122) rfl
                  clear kw65 uw65
                  refine sf_iinc (L' := [(9, .inl (.int v45)), (5, .inl (.long v24)), (8, .inl (.int v22)), (0, .inl (.ref 71)), (1, .inl (.int a_d))]) sf_c1 rfl rfl (by omega) (fun v70 ev70 => ?_)
                  refine sf_can (L' := [(0, .inl (.ref 71)), (1, .inl (.int a_d)), (5, .inl (.long v24)), (7, .inl (.int v70))]) rfl ?_
                  exact i_95 w65 v24 v70 Iw65 sw65 (by omega) (by omega) (by omega) (by omega) (by rw [c67, c62, c32]; first | exact f_2 | exact r2 (by omega)) (by rw [c66, c61, c31]; exact f_3) (by rw [c68, c63, c33]; exact f_4) (by rw [c69, c64, c34]; exact f_5) (by omega)
              · refine sf_aload rfl ?_
                refine sf_getr Iw30 rfl rfl ?_
                refine sf_iload rfl ?_
                refine sf_iald Iw30 rfl (by omega) (fun v71 lv71 uv71 ev71 => ?_)
                clear lv71 uv71
                clear ev71
                refine sf_istore (L' := [(5, .inl (.long v24)), (8, .inl (.int v22)), (0, .inl (.ref 71)), (1, .inl (.int a_d)), (7, .inl (.int x7))]) rfl ?_
                refine sf_aload rfl ?_
                refine sf_getr Iw30 rfl rfl ?_
                refine sf_iload rfl ?_
                refine sf_iald Iw30 rfl (by omega) (fun v72 lv72 uv72 ev72 => ?_)
                refine sf_f1_lt (fun h73 => ?_) (fun h73 => ?_)
                · refine sf_aload rfl ?_
                  refine sf_getr Iw30 rfl rfl ?_
                  refine sf_iload rfl ?_
                  refine sf_iload rfl ?_
                  refine sf_iast Iw30 sw30 rfl (by omega) (sf_bd _) rfl rfl (fun w74 Iw74 sw74 kw74 uw74 => ?_)
                  have c75 := sf_mf kw74 (p := 71) (j := 0) rfl
                  have c76 := sf_ma kw74 (p := 117) rfl
                  have c77 := sf_ma kw74 (p := 110) rfl
                  have c78 := sf_ma kw74 (p := 122) rfl
                  clear kw74 uw74
                  refine sf_iinc (L' := [(9, .inl (.int v71)), (5, .inl (.long v24)), (8, .inl (.int v22)), (0, .inl (.ref 71)), (1, .inl (.int a_d))]) sf_c1 rfl rfl (by omega) (fun v79 ev79 => ?_)
                  refine sf_can (L' := [(0, .inl (.ref 71)), (1, .inl (.int a_d)), (5, .inl (.long v24)), (7, .inl (.int v79))]) rfl ?_
                  exact i_95 w74 v24 v79 Iw74 sw74 (by omega) (by omega) (by omega) (by omega) (by rw [c76, c32]; first | exact f_2 | exact r2 (by omega)) (by rw [c75, c31]; exact f_3) (by rw [c77, c33]; exact f_4) (by rw [c78, c34]; exact f_5) (by omega)
                · refine sf_aload rfl ?_
                  refine sf_getr Iw30 rfl rfl ?_
                  refine sf_aload rfl ?_
                  refine sf_getr Iw30 rfl rfl ?_
                  refine sf_iload rfl ?_
                  refine sf_iald Iw30 rfl (by omega) (fun v80 lv80 uv80 ev80 => ?_)
                  refine sf_aload rfl ?_
                  refine sf_getr Iw30 rfl rfl ?_
                  refine sf_aload rfl ?_
                  refine sf_getr Iw30 rfl rfl ?_
                  refine sf_iload rfl ?_
                  refine sf_iald Iw30 rfl (by omega) (fun v81 lv81 uv81 ev81 => ?_)
                  refine sf_iald Iw30 rfl (by omega) (fun v82 lv82 uv82 ev82 => ?_)
                  clear lv82 uv82
                  clear ev82
                  refine sf_aload rfl ?_
                  refine sf_getr Iw30 rfl rfl ?_
                  refine sf_iload rfl ?_
                  refine sf_iald Iw30 rfl (by omega) (fun v83 lv83 uv83 ev83 => ?_)
                  clear lv83 uv83
                  clear ev83
                  refine sf_i2 (fun v84 => ?_)
                  refine sf_iload rfl ?_
                  refine sf_i2 (fun v85 => ?_)
                  refine sf_iast Iw30 sw30 rfl (by omega) (sf_bd _) rfl rfl (fun w86 Iw86 sw86 kw86 uw86 => ?_)
                  have c87 := sf_mf kw86 (p := 71) (j := 0) rfl
                  have c88 := sf_ma kw86 (p := 117) rfl
                  have c89 := sf_ma kw86 (p := 110) rfl
                  have c90 := sf_ma kw86 (p := 122) rfl
                  clear kw86 uw86
                  refine sf_aload rfl ?_
                  refine sf_getr Iw86 rfl rfl ?_
                  refine sf_iload rfl ?_
                  refine sf_iload rfl ?_
                  refine sf_iast Iw86 sw86 rfl (by omega) (sf_bd _) rfl rfl (fun w91 Iw91 sw91 kw91 uw91 => ?_)
                  have c92 := sf_mf kw91 (p := 71) (j := 0) rfl
                  have c93 := sf_ma kw91 (p := 117) rfl
                  have c94 := sf_ma kw91 (p := 110) rfl
                  have c95 := sf_ma kw91 (p := 122) rfl
                  clear kw91 uw91
                  refine sf_iinc (L' := [(9, .inl (.int v71)), (5, .inl (.long v24)), (8, .inl (.int v22)), (0, .inl (.ref 71)), (1, .inl (.int a_d))]) sf_c1 rfl rfl (by omega) (fun v96 ev96 => ?_)
                  refine sf_can (L' := [(0, .inl (.ref 71)), (1, .inl (.int a_d)), (5, .inl (.long v24)), (7, .inl (.int v96))]) rfl ?_
                  exact i_95 w91 v24 v96 Iw91 sw91 (by omega) (by omega) (by omega) (by omega) (by rw [c93, c88, c32]; first | exact f_2 | exact r2 (by omega)) (by rw [c92, c87, c31]; exact f_3) (by rw [c94, c89, c33]; exact f_4) (by rw [c95, c90, c34]; exact f_5) (by omega)
            · refine sf_iconst sf_c0 (fun z97 ez97 => ?_)
              refine sf_istore (L' := [(5, .inl (.long v24)), (8, .inl (.int v22)), (0, .inl (.ref 71)), (1, .inl (.int a_d)), (7, .inl (.int x7))]) rfl ?_
              refine sf_aload rfl ?_
              refine sf_getr Iw30 rfl rfl ?_
              refine sf_iload rfl ?_
              refine sf_iald Iw30 rfl (by omega) (fun v98 lv98 uv98 ev98 => ?_)
              refine sf_f1_lt (fun h99 => ?_) (fun h99 => ?_)
              · refine sf_aload rfl ?_
                refine sf_getr Iw30 rfl rfl ?_
                refine sf_iload rfl ?_
                refine sf_iload rfl ?_
                refine sf_iast Iw30 sw30 rfl (by omega) (sf_bd _) rfl rfl (fun w100 Iw100 sw100 kw100 uw100 => ?_)
                have c101 := sf_mf kw100 (p := 71) (j := 0) rfl
                have c102 := sf_ma kw100 (p := 117) rfl
                have c103 := sf_ma kw100 (p := 110) rfl
                have c104 := sf_ma kw100 (p := 122) rfl
                clear kw100 uw100
                refine sf_iinc (L' := [(9, .inl (.int z97)), (5, .inl (.long v24)), (8, .inl (.int v22)), (0, .inl (.ref 71)), (1, .inl (.int a_d))]) sf_c1 rfl rfl (by omega) (fun v105 ev105 => ?_)
                refine sf_can (L' := [(0, .inl (.ref 71)), (1, .inl (.int a_d)), (5, .inl (.long v24)), (7, .inl (.int v105))]) rfl ?_
                exact i_95 w100 v24 v105 Iw100 sw100 (by omega) (by omega) (by omega) (by omega) (by rw [c102, c32]; first | exact f_2 | exact r2 (by omega)) (by rw [c101, c31]; exact f_3) (by rw [c103, c33]; exact f_4) (by rw [c104, c34]; exact f_5) (by omega)
              · refine sf_aload rfl ?_
                refine sf_getr Iw30 rfl rfl ?_
                refine sf_aload rfl ?_
                refine sf_getr Iw30 rfl rfl ?_
                refine sf_iload rfl ?_
                refine sf_iald Iw30 rfl (by omega) (fun v106 lv106 uv106 ev106 => ?_)
                refine sf_aload rfl ?_
                refine sf_getr Iw30 rfl rfl ?_
                refine sf_aload rfl ?_
                refine sf_getr Iw30 rfl rfl ?_
                refine sf_iload rfl ?_
                refine sf_iald Iw30 rfl (by omega) (fun v107 lv107 uv107 ev107 => ?_)
                refine sf_iald Iw30 rfl (by omega) (fun v108 lv108 uv108 ev108 => ?_)
                clear lv108 uv108
                clear ev108
                refine sf_aload rfl ?_
                refine sf_getr Iw30 rfl rfl ?_
                refine sf_iload rfl ?_
                refine sf_iald Iw30 rfl (by omega) (fun v109 lv109 uv109 ev109 => ?_)
                clear lv109 uv109
                clear ev109
                refine sf_i2 (fun v110 => ?_)
                refine sf_iload rfl ?_
                refine sf_i2 (fun v111 => ?_)
                refine sf_iast Iw30 sw30 rfl (by omega) (sf_bd _) rfl rfl (fun w112 Iw112 sw112 kw112 uw112 => ?_)
                have c113 := sf_mf kw112 (p := 71) (j := 0) rfl
                have c114 := sf_ma kw112 (p := 117) rfl
                have c115 := sf_ma kw112 (p := 110) rfl
                have c116 := sf_ma kw112 (p := 122) rfl
                clear kw112 uw112
                refine sf_aload rfl ?_
                refine sf_getr Iw112 rfl rfl ?_
                refine sf_iload rfl ?_
                refine sf_iload rfl ?_
                refine sf_iast Iw112 sw112 rfl (by omega) (sf_bd _) rfl rfl (fun w117 Iw117 sw117 kw117 uw117 => ?_)
                have c118 := sf_mf kw117 (p := 71) (j := 0) rfl
                have c119 := sf_ma kw117 (p := 117) rfl
                have c120 := sf_ma kw117 (p := 110) rfl
                have c121 := sf_ma kw117 (p := 122) rfl
                clear kw117 uw117
                refine sf_iinc (L' := [(9, .inl (.int z97)), (5, .inl (.long v24)), (8, .inl (.int v22)), (0, .inl (.ref 71)), (1, .inl (.int a_d))]) sf_c1 rfl rfl (by omega) (fun v122 ev122 => ?_)
                refine sf_can (L' := [(0, .inl (.ref 71)), (1, .inl (.int a_d)), (5, .inl (.long v24)), (7, .inl (.int v122))]) rfl ?_
                exact i_95 w117 v24 v122 Iw117 sw117 (by omega) (by omega) (by omega) (by omega) (by rw [c119, c114, c32]; first | exact f_2 | exact r2 (by omega)) (by rw [c118, c113, c31]; exact f_3) (by rw [c120, c115, c33]; exact f_4) (by rw [c121, c116, c34]; exact f_5) (by omega)
          · refine sf_aload rfl ?_
            refine sf_getl I_w rfl rfl (fun v123 => ?_)
            refine sf_putl I_w s_w rfl rfl rfl rfl rfl (fun w124 Iw124 sw124 kw124 uw124 => ?_)
            have c125 := sf_mf kw124 (p := 71) (j := 0) rfl
            have c126 := sf_ma kw124 (p := 117) rfl
            have c127 := sf_ma kw124 (p := 110) rfl
            have c128 := sf_ma kw124 (p := 122) rfl
            clear kw124 uw124
            refine sf_aload rfl ?_
            refine sf_getr Iw124 rfl rfl ?_
            refine sf_iload rfl ?_
            refine sf_iald Iw124 rfl (by omega) (fun v129 lv129 uv129 ev129 => ?_)
            refine sf_aload rfl ?_
            refine sf_getr Iw124 rfl rfl ?_
            refine sf_iload rfl ?_
            refine sf_iald Iw124 rfl (by omega) (fun v130 lv130 uv130 ev130 => ?_)
            refine sf_f2_eq (fun h131 => ?_) (fun h131 => ?_)
            · refine sf_aload rfl ?_
              refine sf_getr Iw124 rfl rfl ?_
              refine sf_iload rfl ?_
              refine sf_iald Iw124 rfl (by omega) (fun v132 lv132 uv132 ev132 => ?_)
              clear lv132 uv132
              clear ev132
              refine sf_aload rfl ?_
              refine sf_getr Iw124 rfl rfl ?_
              refine sf_iconst sf_c3 (fun z133 ez133 => ?_)
              refine sf_iload rfl ?_
              refine sf_imull (n := 3) (by omega) (by omega) (fun v134 ev134 => ?_)
              refine sf_iald Iw124 rfl (by omega) (fun v135 lv135 uv135 ev135 => ?_)
              rw [c127] at ev135
              skip
              refine sf_f2_ge (fun h136 => ?_) (fun h136 => ?_)
              · refine sf_aload rfl ?_
                refine sf_getr Iw124 rfl rfl ?_
                refine sf_iconst sf_c3 (fun z137 ez137 => ?_)
                refine sf_iload rfl ?_
                refine sf_imull (n := 3) (by omega) (by omega) (fun v138 ev138 => ?_)
                refine sf_iald Iw124 rfl (by omega) (fun v139 lv139 uv139 ev139 => ?_)
                rw [c127] at ev139
                skip
                refine sf_istore (L' := [(5, .inl (.long v24)), (8, .inl (.int v22)), (0, .inl (.ref 71)), (1, .inl (.int a_d)), (7, .inl (.int x7))]) rfl ?_
                refine sf_aload rfl ?_
                refine sf_getr Iw124 rfl rfl ?_
                refine sf_iload rfl ?_
                refine sf_iald Iw124 rfl (by omega) (fun v140 lv140 uv140 ev140 => ?_)
                refine sf_f1_lt (fun h141 => ?_) (fun h141 => ?_)
                · refine sf_aload rfl ?_
                  refine sf_getr Iw124 rfl rfl ?_
                  refine sf_iload rfl ?_
                  refine sf_iload rfl ?_
                  refine sf_iast Iw124 sw124 rfl (by omega) (sf_bd _) rfl rfl (fun w142 Iw142 sw142 kw142 uw142 => ?_)
                  have c143 := sf_mf kw142 (p := 71) (j := 0) rfl
                  have c144 := sf_ma kw142 (p := 117) rfl
                  have c145 := sf_ma kw142 (p := 110) rfl
                  have c146 := sf_ma kw142 (p := 122) rfl
                  clear kw142 uw142
                  refine sf_iinc (L' := [(9, .inl (.int v139)), (5, .inl (.long v24)), (8, .inl (.int v22)), (0, .inl (.ref 71)), (1, .inl (.int a_d))]) sf_c1 rfl rfl (by omega) (fun v147 ev147 => ?_)
                  refine sf_can (L' := [(0, .inl (.ref 71)), (1, .inl (.int a_d)), (5, .inl (.long v24)), (7, .inl (.int v147))]) rfl ?_
                  exact i_95 w142 v24 v147 Iw142 sw142 (by omega) (by omega) (by omega) (by omega) (by rw [c144, c126]; first | exact f_2 | exact r2 (by omega)) (by rw [c143, c125]; exact f_3) (by rw [c145, c127]; exact f_4) (by rw [c146, c128]; exact f_5) (by omega)
                · refine sf_aload rfl ?_
                  refine sf_getr Iw124 rfl rfl ?_
                  refine sf_aload rfl ?_
                  refine sf_getr Iw124 rfl rfl ?_
                  refine sf_iload rfl ?_
                  refine sf_iald Iw124 rfl (by omega) (fun v148 lv148 uv148 ev148 => ?_)
                  refine sf_aload rfl ?_
                  refine sf_getr Iw124 rfl rfl ?_
                  refine sf_aload rfl ?_
                  refine sf_getr Iw124 rfl rfl ?_
                  refine sf_iload rfl ?_
                  refine sf_iald Iw124 rfl (by omega) (fun v149 lv149 uv149 ev149 => ?_)
                  refine sf_iald Iw124 rfl (by omega) (fun v150 lv150 uv150 ev150 => ?_)
                  clear lv150 uv150
                  clear ev150
                  refine sf_aload rfl ?_
                  refine sf_getr Iw124 rfl rfl ?_
                  refine sf_iload rfl ?_
                  refine sf_iald Iw124 rfl (by omega) (fun v151 lv151 uv151 ev151 => ?_)
                  clear lv151 uv151
                  clear ev151
                  refine sf_i2 (fun v152 => ?_)
                  refine sf_iload rfl ?_
                  refine sf_i2 (fun v153 => ?_)
                  refine sf_iast Iw124 sw124 rfl (by omega) (sf_bd _) rfl rfl (fun w154 Iw154 sw154 kw154 uw154 => ?_)
                  have c155 := sf_mf kw154 (p := 71) (j := 0) rfl
                  have c156 := sf_ma kw154 (p := 117) rfl
                  have c157 := sf_ma kw154 (p := 110) rfl
                  have c158 := sf_ma kw154 (p := 122) rfl
                  clear kw154 uw154
                  refine sf_aload rfl ?_
                  refine sf_getr Iw154 rfl rfl ?_
                  refine sf_iload rfl ?_
                  refine sf_iload rfl ?_
                  refine sf_iast Iw154 sw154 rfl (by omega) (sf_bd _) rfl rfl (fun w159 Iw159 sw159 kw159 uw159 => ?_)
                  have c160 := sf_mf kw159 (p := 71) (j := 0) rfl
                  have c161 := sf_ma kw159 (p := 117) rfl
                  have c162 := sf_ma kw159 (p := 110) rfl
                  have c163 := sf_ma kw159 (p := 122) rfl
                  clear kw159 uw159
                  refine sf_iinc (L' := [(9, .inl (.int v139)), (5, .inl (.long v24)), (8, .inl (.int v22)), (0, .inl (.ref 71)), (1, .inl (.int a_d))]) sf_c1 rfl rfl (by omega) (fun v164 ev164 => ?_)
                  refine sf_can (L' := [(0, .inl (.ref 71)), (1, .inl (.int a_d)), (5, .inl (.long v24)), (7, .inl (.int v164))]) rfl ?_
                  exact i_95 w159 v24 v164 Iw159 sw159 (by omega) (by omega) (by omega) (by omega) (by rw [c161, c156, c126]; first | exact f_2 | exact r2 (by omega)) (by rw [c160, c155, c125]; exact f_3) (by rw [c162, c157, c127]; exact f_4) (by rw [c163, c158, c128]; exact f_5) (by omega)
              · refine sf_aload rfl ?_
                refine sf_getr Iw124 rfl rfl ?_
                refine sf_iload rfl ?_
                refine sf_iald Iw124 rfl (by omega) (fun v165 lv165 uv165 ev165 => ?_)
                clear lv165 uv165
                clear ev165
                refine sf_istore (L' := [(5, .inl (.long v24)), (8, .inl (.int v22)), (0, .inl (.ref 71)), (1, .inl (.int a_d)), (7, .inl (.int x7))]) rfl ?_
                refine sf_aload rfl ?_
                refine sf_getr Iw124 rfl rfl ?_
                refine sf_iload rfl ?_
                refine sf_iald Iw124 rfl (by omega) (fun v166 lv166 uv166 ev166 => ?_)
                refine sf_f1_lt (fun h167 => ?_) (fun h167 => ?_)
                · refine sf_aload rfl ?_
                  refine sf_getr Iw124 rfl rfl ?_
                  refine sf_iload rfl ?_
                  refine sf_iload rfl ?_
                  refine sf_iast Iw124 sw124 rfl (by omega) (sf_bd _) rfl rfl (fun w168 Iw168 sw168 kw168 uw168 => ?_)
                  have c169 := sf_mf kw168 (p := 71) (j := 0) rfl
                  have c170 := sf_ma kw168 (p := 117) rfl
                  have c171 := sf_ma kw168 (p := 110) rfl
                  have c172 := sf_ma kw168 (p := 122) rfl
                  clear kw168 uw168
                  refine sf_iinc (L' := [(9, .inl (.int v165)), (5, .inl (.long v24)), (8, .inl (.int v22)), (0, .inl (.ref 71)), (1, .inl (.int a_d))]) sf_c1 rfl rfl (by omega) (fun v173 ev173 => ?_)
                  refine sf_can (L' := [(0, .inl (.ref 71)), (1, .inl (.int a_d)), (5, .inl (.long v24)), (7, .inl (.int v173))]) rfl ?_
                  exact i_95 w168 v24 v173 Iw168 sw168 (by omega) (by omega) (by omega) (by omega) (by rw [c170, c126]; first | exact f_2 | exact r2 (by omega)) (by rw [c169, c125]; exact f_3) (by rw [c171, c127]; exact f_4) (by rw [c172, c128]; exact f_5) (by omega)
                · refine sf_aload rfl ?_
                  refine sf_getr Iw124 rfl rfl ?_
                  refine sf_aload rfl ?_
                  refine sf_getr Iw124 rfl rfl ?_
                  refine sf_iload rfl ?_
                  refine sf_iald Iw124 rfl (by omega) (fun v174 lv174 uv174 ev174 => ?_)
                  refine sf_aload rfl ?_
                  refine sf_getr Iw124 rfl rfl ?_
                  refine sf_aload rfl ?_
                  refine sf_getr Iw124 rfl rfl ?_
                  refine sf_iload rfl ?_
                  refine sf_iald Iw124 rfl (by omega) (fun v175 lv175 uv175 ev175 => ?_)
                  refine sf_iald Iw124 rfl (by omega) (fun v176 lv176 uv176 ev176 => ?_)
                  clear lv176 uv176
                  clear ev176
                  refine sf_aload rfl ?_
                  refine sf_getr Iw124 rfl rfl ?_
                  refine sf_iload rfl ?_
                  refine sf_iald Iw124 rfl (by omega) (fun v177 lv177 uv177 ev177 => ?_)
                  clear lv177 uv177
                  clear ev177
                  refine sf_i2 (fun v178 => ?_)
                  refine sf_iload rfl ?_
                  refine sf_i2 (fun v179 => ?_)
                  refine sf_iast Iw124 sw124 rfl (by omega) (sf_bd _) rfl rfl (fun w180 Iw180 sw180 kw180 uw180 => ?_)
                  have c181 := sf_mf kw180 (p := 71) (j := 0) rfl
                  have c182 := sf_ma kw180 (p := 117) rfl
                  have c183 := sf_ma kw180 (p := 110) rfl
                  have c184 := sf_ma kw180 (p := 122) rfl
                  clear kw180 uw180
                  refine sf_aload rfl ?_
                  refine sf_getr Iw180 rfl rfl ?_
                  refine sf_iload rfl ?_
                  refine sf_iload rfl ?_
                  refine sf_iast Iw180 sw180 rfl (by omega) (sf_bd _) rfl rfl (fun w185 Iw185 sw185 kw185 uw185 => ?_)
                  have c186 := sf_mf kw185 (p := 71) (j := 0) rfl
                  have c187 := sf_ma kw185 (p := 117) rfl
                  have c188 := sf_ma kw185 (p := 110) rfl
                  have c189 := sf_ma kw185 (p := 122) rfl
                  clear kw185 uw185
                  refine sf_iinc (L' := [(9, .inl (.int v165)), (5, .inl (.long v24)), (8, .inl (.int v22)), (0, .inl (.ref 71)), (1, .inl (.int a_d))]) sf_c1 rfl rfl (by omega) (fun v190 ev190 => ?_)
                  refine sf_can (L' := [(0, .inl (.ref 71)), (1, .inl (.int a_d)), (5, .inl (.long v24)), (7, .inl (.int v190))]) rfl ?_
                  exact i_95 w185 v24 v190 Iw185 sw185 (by omega) (by omega) (by omega) (by omega) (by rw [c187, c182, c126]; first | exact f_2 | exact r2 (by omega)) (by rw [c186, c181, c125]; exact f_3) (by rw [c188, c183, c127]; exact f_4) (by rw [c189, c184, c128]; exact f_5) (by omega)
            · refine sf_iconst sf_c0 (fun z191 ez191 => ?_)
              refine sf_istore (L' := [(5, .inl (.long v24)), (8, .inl (.int v22)), (0, .inl (.ref 71)), (1, .inl (.int a_d)), (7, .inl (.int x7))]) rfl ?_
              refine sf_aload rfl ?_
              refine sf_getr Iw124 rfl rfl ?_
              refine sf_iload rfl ?_
              refine sf_iald Iw124 rfl (by omega) (fun v192 lv192 uv192 ev192 => ?_)
              refine sf_f1_lt (fun h193 => ?_) (fun h193 => ?_)
              · refine sf_aload rfl ?_
                refine sf_getr Iw124 rfl rfl ?_
                refine sf_iload rfl ?_
                refine sf_iload rfl ?_
                refine sf_iast Iw124 sw124 rfl (by omega) (sf_bd _) rfl rfl (fun w194 Iw194 sw194 kw194 uw194 => ?_)
                have c195 := sf_mf kw194 (p := 71) (j := 0) rfl
                have c196 := sf_ma kw194 (p := 117) rfl
                have c197 := sf_ma kw194 (p := 110) rfl
                have c198 := sf_ma kw194 (p := 122) rfl
                clear kw194 uw194
                refine sf_iinc (L' := [(9, .inl (.int z191)), (5, .inl (.long v24)), (8, .inl (.int v22)), (0, .inl (.ref 71)), (1, .inl (.int a_d))]) sf_c1 rfl rfl (by omega) (fun v199 ev199 => ?_)
                refine sf_can (L' := [(0, .inl (.ref 71)), (1, .inl (.int a_d)), (5, .inl (.long v24)), (7, .inl (.int v199))]) rfl ?_
                exact i_95 w194 v24 v199 Iw194 sw194 (by omega) (by omega) (by omega) (by omega) (by rw [c196, c126]; first | exact f_2 | exact r2 (by omega)) (by rw [c195, c125]; exact f_3) (by rw [c197, c127]; exact f_4) (by rw [c198, c128]; exact f_5) (by omega)
              · refine sf_aload rfl ?_
                refine sf_getr Iw124 rfl rfl ?_
                refine sf_aload rfl ?_
                refine sf_getr Iw124 rfl rfl ?_
                refine sf_iload rfl ?_
                refine sf_iald Iw124 rfl (by omega) (fun v200 lv200 uv200 ev200 => ?_)
                refine sf_aload rfl ?_
                refine sf_getr Iw124 rfl rfl ?_
                refine sf_aload rfl ?_
                refine sf_getr Iw124 rfl rfl ?_
                refine sf_iload rfl ?_
                refine sf_iald Iw124 rfl (by omega) (fun v201 lv201 uv201 ev201 => ?_)
                refine sf_iald Iw124 rfl (by omega) (fun v202 lv202 uv202 ev202 => ?_)
                clear lv202 uv202
                clear ev202
                refine sf_aload rfl ?_
                refine sf_getr Iw124 rfl rfl ?_
                refine sf_iload rfl ?_
                refine sf_iald Iw124 rfl (by omega) (fun v203 lv203 uv203 ev203 => ?_)
                clear lv203 uv203
                clear ev203
                refine sf_i2 (fun v204 => ?_)
                refine sf_iload rfl ?_
                refine sf_i2 (fun v205 => ?_)
                refine sf_iast Iw124 sw124 rfl (by omega) (sf_bd _) rfl rfl (fun w206 Iw206 sw206 kw206 uw206 => ?_)
                have c207 := sf_mf kw206 (p := 71) (j := 0) rfl
                have c208 := sf_ma kw206 (p := 117) rfl
                have c209 := sf_ma kw206 (p := 110) rfl
                have c210 := sf_ma kw206 (p := 122) rfl
                clear kw206 uw206
                refine sf_aload rfl ?_
                refine sf_getr Iw206 rfl rfl ?_
                refine sf_iload rfl ?_
                refine sf_iload rfl ?_
                refine sf_iast Iw206 sw206 rfl (by omega) (sf_bd _) rfl rfl (fun w211 Iw211 sw211 kw211 uw211 => ?_)
                have c212 := sf_mf kw211 (p := 71) (j := 0) rfl
                have c213 := sf_ma kw211 (p := 117) rfl
                have c214 := sf_ma kw211 (p := 110) rfl
                have c215 := sf_ma kw211 (p := 122) rfl
                clear kw211 uw211
                refine sf_iinc (L' := [(9, .inl (.int z191)), (5, .inl (.long v24)), (8, .inl (.int v22)), (0, .inl (.ref 71)), (1, .inl (.int a_d))]) sf_c1 rfl rfl (by omega) (fun v216 ev216 => ?_)
                refine sf_can (L' := [(0, .inl (.ref 71)), (1, .inl (.int a_d)), (5, .inl (.long v24)), (7, .inl (.int v216))]) rfl ?_
                exact i_95 w211 v24 v216 Iw211 sw211 (by omega) (by omega) (by omega) (by omega) (by rw [c213, c208, c126]; first | exact f_2 | exact r2 (by omega)) (by rw [c212, c207, c125]; exact f_3) (by rw [c214, c209, c127]; exact f_4) (by rw [c215, c210, c128]; exact f_5) (by omega)
      · intro w x5 x7 x9 I_w s_w l_x9 u_x9 f_0 f_1 f_2 f_3 f_4 f_5 hm
        show kh_M_amend_297 rt xt (ku_M_amend rt xt n) [(0, .inl (.ref 71)), (1, .inl (.int a_d)), (5, .inl (.long x5)), (7, .inl (.long x7)), (9, .inl (.int x9))] [] w 0 0
        generalize ku_M_amend rt xt n = K at i_95 i_297 ⊢
        refine sf_iload rfl ?_
        refine sf_iconst sf_c4 (fun z217 ez217 => ?_)
        refine sf_iload rfl ?_
        refine sf_imull (n := 4) (by omega) (by omega) (fun v218 ev218 => ?_)
        refine sf_aload rfl ?_
        refine sf_getr I_w rfl rfl ?_
        refine sf_iload rfl ?_
        refine sf_iald I_w rfl (by omega) (fun v219 lv219 uv219 ev219 => ?_)
        rw [sf_ma s_w (p := 104) rfl] at ev219
        refine sf_iadd (by omega) (fun v220 ev220 => ?_)
        refine sf_f2_ge (fun h221 => ?_) (fun h221 => ?_)
        · refine sf_lload rfl ?_
          refine sf_lload rfl ?_
          refine sf_l2 (fun v222 => ?_)
          refine sf_lreturn rfl rfl ?_
          exact hR _ _ I_w s_w (by exact Or.inr (Or.inr (Or.inr f_2))) (by exact Or.inr ⟨f_2.1, f_3⟩) (by exact Or.inr ⟨f_2.1, (by rw [show (sf_a w0 104 a_d.toInt.toNat).toInt.toNat = (x9.toInt - 4 * a_d.toInt).toNat by omega]; exact f_4)⟩)
        · refine sf_aload rfl ?_
          refine sf_getr I_w rfl rfl ?_
          refine sf_aload rfl ?_
          refine sf_getr I_w rfl rfl ?_
          refine sf_iload rfl ?_
          refine sf_iald I_w rfl (by omega) (fun v223 lv223 uv223 ev223 => ?_)
          rw [sf_ma s_w (p := 113) rfl] at ev223
          have gx := ev223
          refine sf_aload rfl ?_
          refine sf_getr I_w rfl rfl ?_
          refine sf_iconst sf_c3 (fun z224 ez224 => ?_)
          refine sf_iload rfl ?_
          refine sf_imull (n := 3) (by omega) (by omega) (fun v225 ev225 => ?_)
          refine sf_iald I_w rfl (by omega) (fun v226 lv226 uv226 ev226 => ?_)
          have gu := ev226
          rw [show v225.toInt.toNat = 3 * ((4 * a_d.toInt).toNat + (x9.toInt - 4 * a_d.toInt).toNat) by omega] at gu
          refine sf_iast I_w s_w rfl (by omega) (sf_bd _) rfl rfl (fun w227 Iw227 sw227 kw227 uw227 => ?_)
          have c228 := sf_mf kw227 (p := 71) (j := 0) rfl
          have c229 := sf_ma kw227 (p := 117) rfl
          have c230 := sf_ma kw227 (p := 110) rfl
          clear kw227
          have us := uw227
          skip
          refine sf_aload rfl ?_
          refine sf_getr Iw227 rfl rfl ?_
          refine sf_aload rfl ?_
          refine sf_getr Iw227 rfl rfl ?_
          refine sf_iload rfl ?_
          refine sf_iald Iw227 rfl (by omega) (fun v231 lv231 uv231 ev231 => ?_)
          rw [sf_ma sw227 (p := 113) rfl] at ev231
          skip
          refine sf_aload rfl ?_
          refine sf_getr Iw227 rfl rfl ?_
          refine sf_iload rfl ?_
          refine sf_lald Iw227 rfl (by omega) (fun v232 ev232 => ?_)
          clear ev232
          refine sf_last Iw227 sw227 rfl (by omega) rfl rfl (fun w233 Iw233 sw233 kw233 uw233 => ?_)
          have c234 := sf_mf kw233 (p := 71) (j := 0) rfl
          have c235 := sf_ma kw233 (p := 117) rfl
          have c236 := sf_ma kw233 (p := 110) rfl
          have c237 := sf_ma kw233 (p := 122) rfl
          clear kw233 uw233
          refine sf_aload rfl ?_
          refine sf_aload rfl ?_
          refine sf_getr Iw233 rfl rfl ?_
          refine sf_iload rfl ?_
          refine sf_zald Iw233 rfl (by omega) (fun v238 lv238 uv238 ev238 => ?_)
          clear ev238
          refine sf_f1_eq (fun h239 => ?_) (fun h239 => ?_)
          · refine sf_aload rfl ?_
            refine sf_getl Iw233 rfl rfl (fun v240 => ?_)
            refine sf_aload rfl ?_
            refine sf_getr Iw233 rfl rfl ?_
            refine sf_iload rfl ?_
            refine sf_lald Iw233 rfl (by omega) (fun v241 ev241 => ?_)
            clear ev241
            refine sf_l2 (fun v242 => ?_)
            refine sf_putl Iw233 sw233 rfl rfl rfl rfl rfl (fun w243 Iw243 sw243 kw243 uw243 => ?_)
            have c244 := sf_mf kw243 (p := 71) (j := 0) rfl
            have c245 := sf_ma kw243 (p := 117) rfl
            have c246 := sf_ma kw243 (p := 110) rfl
            have c247 := sf_ma kw243 (p := 122) rfl
            clear kw243 uw243
            refine sf_iinc (L' := [(0, .inl (.ref 71)), (1, .inl (.int a_d)), (5, .inl (.long x5)), (7, .inl (.long x7))]) sf_c1 rfl rfl (by omega) (fun v248 ev248 => ?_)
            refine sf_can (L' := [(0, .inl (.ref 71)), (1, .inl (.int a_d)), (5, .inl (.long x5)), (7, .inl (.long x7)), (9, .inl (.int v248))]) rfl ?_
            exact i_297 w243 x5 x7 v248 Iw243 sw243 (by omega) (by omega) (by omega) (by omega) (by rw [c244, c234, c228]; exact f_2) (by rw [c246, c236, c230]; exact f_3) (by rw [c247, c237]; rw [c246, c236, c230]; exact sl_WS (n := (x9.toInt - 4 * a_d.toInt).toNat) f_4 (by omega) us (by unfold sl_iy; rw [show (4 * a_d.toInt).toNat + (x9.toInt - 4 * a_d.toInt).toNat = x9.toInt.toNat by omega, ← gx]) (sb_eq gu)) (by omega) (by omega)
          · refine sf_aload rfl ?_
            refine sf_getl Iw233 rfl rfl (fun v249 => ?_)
            refine sf_putl Iw233 sw233 rfl rfl rfl rfl rfl (fun w250 Iw250 sw250 kw250 uw250 => ?_)
            have c251 := sf_mf kw250 (p := 71) (j := 0) rfl
            have c252 := sf_ma kw250 (p := 117) rfl
            have c253 := sf_ma kw250 (p := 110) rfl
            have c254 := sf_ma kw250 (p := 122) rfl
            clear kw250 uw250
            refine sf_iinc (L' := [(0, .inl (.ref 71)), (1, .inl (.int a_d)), (5, .inl (.long x5)), (7, .inl (.long x7))]) sf_c1 rfl rfl (by omega) (fun v255 ev255 => ?_)
            refine sf_can (L' := [(0, .inl (.ref 71)), (1, .inl (.int a_d)), (5, .inl (.long x5)), (7, .inl (.long x7)), (9, .inl (.int v255))]) rfl ?_
            exact i_297 w250 x5 x7 v255 Iw250 sw250 (by omega) (by omega) (by omega) (by omega) (by rw [c251, c234, c228]; exact f_2) (by rw [c253, c236, c230]; exact f_3) (by rw [c254, c237]; rw [c253, c236, c230]; exact sl_WS (n := (x9.toInt - 4 * a_d.toInt).toNat) f_4 (by omega) us (by unfold sl_iy; rw [show (4 * a_d.toInt).toNat + (x9.toInt - 4 * a_d.toInt).toNat = x9.toInt.toNat by omega, ← gx]) (sb_eq gu)) (by omega) (by omega)
  have hl1 := hl 1000000000000
  obtain ⟨i_95, i_297⟩ := hl1
  clear hl
  refine sf_sp (L := [(0, .inl (.ref 71)), (1, .inl (.int a_d)), (2, .inl (.int a_l)), (3, .inl (.int a_field)), (4, .inl (.int a_v))]) rfl rfl ?_
  generalize ku_M_amend rt xt 1000000000000 = K at i_95 i_297 ⊢
  refine sf_aload rfl ?_
  refine sf_aload rfl ?_
  refine sf_iload rfl ?_
  refine sf_iload rfl ?_
  refine sf_call3 rfl rfl rfl ?_
  refine sf_rv hI0 rfl ?_
  refine sf_sp (L := [(0, .inl (.ref 71)), (1, .inl (.int a_d)), (2, .inl (.int a_l))]) rfl rfl ?_
  refine sf_aload rfl ?_
  refine sf_iload rfl ?_
  refine sf_call2 rfl rfl rfl ?_
  refine sf_rv hI0 rfl ?_
  refine sf_sp (L := [(0, .inl (.ref 71)), (1, .inl (.int a_d))]) rfl rfl ?_
  refine sf_iload rfl ?_
  refine sf_f1_lt (fun h256 => ?_) (fun h256 => ?_)
  · refine sf_iconst sf_c0 (fun z257 ez257 => ?_)
    refine sf_zreturn (by omega) rfl rfl ?_
    refine sf_f1_eq (fun h258 => ?_) (fun h258 => absurd h258 (by omega))
    refine sf_iconst sf_c0 (fun z259 ez259 => ?_)
    refine sf_zreturn (by omega) rfl rfl ?_
    refine sf_f1_eq (fun h260 => ?_) (fun h260 => absurd h260 (by omega))
    refine sf_iconst sf_c1 (fun z261 ez261 => ?_)
    refine sf_puti hI0 hs0 rfl rfl (sf_bd _) rfl rfl rfl (fun w262 Iw262 sw262 kw262 uw262 => ?_)
    have c263 := sf_ma kw262 (p := 117) rfl
    have c264 := sf_ma kw262 (p := 110) rfl
    have c265 := sf_ma kw262 (p := 122) rfl
    clear kw262
    refine sf_aload rfl ?_
    refine sf_geti Iw262 rfl rfl (fun v266 lv266 uv266 ev266 => ?_)
    rw [uw262] at ev266
    refine sf_f1_le (fun h267 => absurd h267 (by omega)) (fun h267 => ?_)
    refine sf_lconst (by decide : (0 : Int64).toInt = 0) (fun z268 ez268 => ?_)
    refine sf_lreturn rfl rfl ?_
    exact hR _ _ Iw262 sw262 (by rw [uw262]; exact Or.inl ⟨by omega, by omega⟩) (by rw [uw262]; rw [c264]; exact Or.inl ⟨by omega, rfl⟩) (by rw [uw262]; rw [c264]; rw [c265]; exact Or.inl ⟨by omega, rfl⟩)
  · refine sf_iload rfl ?_
    refine sf_aload rfl ?_
    refine sf_geti hI0 rfl rfl (fun v269 lv269 uv269 ev269 => ?_)
    refine sf_f2_ge (fun h270 => ?_) (fun h270 => ?_)
    · refine sf_iconst sf_c0 (fun z271 ez271 => ?_)
      refine sf_zreturn (by omega) rfl rfl ?_
      refine sf_f1_eq (fun h272 => ?_) (fun h272 => absurd h272 (by omega))
      refine sf_iconst sf_c0 (fun z273 ez273 => ?_)
      refine sf_zreturn (by omega) rfl rfl ?_
      refine sf_f1_eq (fun h274 => ?_) (fun h274 => absurd h274 (by omega))
      refine sf_iconst sf_c1 (fun z275 ez275 => ?_)
      refine sf_puti hI0 hs0 rfl rfl (sf_bd _) rfl rfl rfl (fun w276 Iw276 sw276 kw276 uw276 => ?_)
      have c277 := sf_ma kw276 (p := 117) rfl
      have c278 := sf_ma kw276 (p := 110) rfl
      have c279 := sf_ma kw276 (p := 122) rfl
      clear kw276
      refine sf_aload rfl ?_
      refine sf_geti Iw276 rfl rfl (fun v280 lv280 uv280 ev280 => ?_)
      rw [uw276] at ev280
      refine sf_f1_le (fun h281 => absurd h281 (by omega)) (fun h281 => ?_)
      refine sf_lconst (by decide : (0 : Int64).toInt = 0) (fun z282 ez282 => ?_)
      refine sf_lreturn rfl rfl ?_
      exact hR _ _ Iw276 sw276 (by rw [uw276]; exact Or.inl ⟨by omega, by omega⟩) (by rw [uw276]; rw [c278]; exact Or.inl ⟨by omega, rfl⟩) (by rw [uw276]; rw [c278]; rw [c279]; exact Or.inl ⟨by omega, rfl⟩)
    · refine sf_iconst sf_c1 (fun z283 ez283 => ?_)
      refine sf_zreturn (by omega) rfl rfl ?_
      refine sf_f1_eq (fun h284 => absurd h284 (by omega)) (fun h284 => ?_)
      refine sf_iload rfl ?_
      refine sf_f1_lt (fun h285 => ?_) (fun h285 => ?_)
      · refine sf_iconst sf_c0 (fun z286 ez286 => ?_)
        refine sf_zreturn (by omega) rfl rfl ?_
        refine sf_f1_eq (fun h287 => ?_) (fun h287 => absurd h287 (by omega))
        refine sf_iconst sf_c1 (fun z288 ez288 => ?_)
        refine sf_puti hI0 hs0 rfl rfl (sf_bd _) rfl rfl rfl (fun w289 Iw289 sw289 kw289 uw289 => ?_)
        have c290 := sf_ma kw289 (p := 117) rfl
        have c291 := sf_ma kw289 (p := 110) rfl
        have c292 := sf_ma kw289 (p := 122) rfl
        clear kw289
        refine sf_aload rfl ?_
        refine sf_geti Iw289 rfl rfl (fun v293 lv293 uv293 ev293 => ?_)
        rw [uw289] at ev293
        refine sf_f1_le (fun h294 => absurd h294 (by omega)) (fun h294 => ?_)
        refine sf_lconst (by decide : (0 : Int64).toInt = 0) (fun z295 ez295 => ?_)
        refine sf_lreturn rfl rfl ?_
        exact hR _ _ Iw289 sw289 (by rw [uw289]; exact Or.inl ⟨by omega, by omega⟩) (by rw [uw289]; rw [c291]; exact Or.inl ⟨by omega, rfl⟩) (by rw [uw289]; rw [c291]; rw [c292]; exact Or.inl ⟨by omega, rfl⟩)
      · refine sf_iload rfl ?_
        refine sf_aload rfl ?_
        refine sf_getr hI0 rfl rfl ?_
        refine sf_iload rfl ?_
        refine sf_iald hI0 rfl (by omega) (fun v296 lv296 uv296 ev296 => ?_)
        refine sf_f2_ge (fun h297 => ?_) (fun h297 => ?_)
        · refine sf_iconst sf_c0 (fun z298 ez298 => ?_)
          refine sf_zreturn (by omega) rfl rfl ?_
          refine sf_f1_eq (fun h299 => ?_) (fun h299 => absurd h299 (by omega))
          refine sf_iconst sf_c1 (fun z300 ez300 => ?_)
          refine sf_puti hI0 hs0 rfl rfl (sf_bd _) rfl rfl rfl (fun w301 Iw301 sw301 kw301 uw301 => ?_)
          have c302 := sf_ma kw301 (p := 117) rfl
          have c303 := sf_ma kw301 (p := 110) rfl
          have c304 := sf_ma kw301 (p := 122) rfl
          clear kw301
          refine sf_aload rfl ?_
          refine sf_geti Iw301 rfl rfl (fun v305 lv305 uv305 ev305 => ?_)
          rw [uw301] at ev305
          refine sf_f1_le (fun h306 => absurd h306 (by omega)) (fun h306 => ?_)
          refine sf_lconst (by decide : (0 : Int64).toInt = 0) (fun z307 ez307 => ?_)
          refine sf_lreturn rfl rfl ?_
          exact hR _ _ Iw301 sw301 (by rw [uw301]; exact Or.inl ⟨by omega, by omega⟩) (by rw [uw301]; rw [c303]; exact Or.inl ⟨by omega, rfl⟩) (by rw [uw301]; rw [c303]; rw [c304]; exact Or.inl ⟨by omega, rfl⟩)
        · refine sf_iconst sf_c1 (fun z308 ez308 => ?_)
          refine sf_zreturn (by omega) rfl rfl ?_
          refine sf_f1_eq (fun h309 => absurd h309 (by omega)) (fun h309 => ?_)
          refine sf_iload rfl ?_
          refine sf_iconst sf_c0 (fun z310 ez310 => ?_)
          refine sf_iconst sf_c2 (fun z311 ez311 => ?_)
          refine sf_call3 rfl rfl rfl ?_
          refine sf_sp (L := [(0, .inl (.int a_field)), (1, .inl (.int z310)), (2, .inl (.int z311))]) rfl rfl ?_
          refine sf_iload rfl ?_
          refine sf_iload rfl ?_
          refine sf_f2_lt (fun h312 => ?_) (fun h312 => ?_)
          · refine sf_iconst sf_c0 (fun z313 ez313 => ?_)
            refine sf_zreturn (by omega) rfl rfl ?_
            refine sf_f1_eq (fun h314 => ?_) (fun h314 => absurd h314 (by omega))
            refine sf_iconst sf_c1 (fun z315 ez315 => ?_)
            refine sf_puti hI0 hs0 rfl rfl (sf_bd _) rfl rfl rfl (fun w316 Iw316 sw316 kw316 uw316 => ?_)
            have c317 := sf_ma kw316 (p := 117) rfl
            have c318 := sf_ma kw316 (p := 110) rfl
            have c319 := sf_ma kw316 (p := 122) rfl
            clear kw316
            refine sf_aload rfl ?_
            refine sf_geti Iw316 rfl rfl (fun v320 lv320 uv320 ev320 => ?_)
            rw [uw316] at ev320
            refine sf_f1_le (fun h321 => absurd h321 (by omega)) (fun h321 => ?_)
            refine sf_lconst (by decide : (0 : Int64).toInt = 0) (fun z322 ez322 => ?_)
            refine sf_lreturn rfl rfl ?_
            exact hR _ _ Iw316 sw316 (by rw [uw316]; exact Or.inl ⟨by omega, by omega⟩) (by rw [uw316]; rw [c318]; exact Or.inl ⟨by omega, rfl⟩) (by rw [uw316]; rw [c318]; rw [c319]; exact Or.inl ⟨by omega, rfl⟩)
          · refine sf_iload rfl ?_
            refine sf_iload rfl ?_
            refine sf_f2_gt (fun h323 => ?_) (fun h323 => ?_)
            · refine sf_iconst sf_c0 (fun z324 ez324 => ?_)
              refine sf_zreturn (by omega) rfl rfl ?_
              refine sf_f1_eq (fun h325 => ?_) (fun h325 => absurd h325 (by omega))
              refine sf_iconst sf_c1 (fun z326 ez326 => ?_)
              refine sf_puti hI0 hs0 rfl rfl (sf_bd _) rfl rfl rfl (fun w327 Iw327 sw327 kw327 uw327 => ?_)
              have c328 := sf_ma kw327 (p := 117) rfl
              have c329 := sf_ma kw327 (p := 110) rfl
              have c330 := sf_ma kw327 (p := 122) rfl
              clear kw327
              refine sf_aload rfl ?_
              refine sf_geti Iw327 rfl rfl (fun v331 lv331 uv331 ev331 => ?_)
              rw [uw327] at ev331
              refine sf_f1_le (fun h332 => absurd h332 (by omega)) (fun h332 => ?_)
              refine sf_lconst (by decide : (0 : Int64).toInt = 0) (fun z333 ez333 => ?_)
              refine sf_lreturn rfl rfl ?_
              exact hR _ _ Iw327 sw327 (by rw [uw327]; exact Or.inl ⟨by omega, by omega⟩) (by rw [uw327]; rw [c329]; exact Or.inl ⟨by omega, rfl⟩) (by rw [uw327]; rw [c329]; rw [c330]; exact Or.inl ⟨by omega, rfl⟩)
            · refine sf_iconst sf_c1 (fun z334 ez334 => ?_)
              refine sf_zreturn (by omega) rfl rfl ?_
              refine sf_f1_eq (fun h335 => absurd h335 (by omega)) (fun h335 => ?_)
              refine sf_iload rfl ?_
              refine sf_iload rfl ?_
              refine sf_call2 rfl rfl rfl ?_
              refine sf_sp (L := [(0, .inl (.int a_field)), (1, .inl (.int a_v))]) rfl rfl ?_
              refine sf_iload rfl ?_
              refine sf_f1_eq (fun h336 => ?_) (fun h336 => ?_)
              · refine sf_iload rfl ?_
                refine sf_iconst sf_c1 (fun z337 ez337 => ?_)
                refine sf_f2_lt (fun h338 => ?_) (fun h338 => ?_)
                · refine sf_iconst sf_c0 (fun z339 ez339 => ?_)
                  refine sf_zreturn (by omega) rfl rfl ?_
                  refine sf_f1_eq (fun h340 => ?_) (fun h340 => absurd h340 (by omega))
                  refine sf_iconst sf_c1 (fun z341 ez341 => ?_)
                  refine sf_puti hI0 hs0 rfl rfl (sf_bd _) rfl rfl rfl (fun w342 Iw342 sw342 kw342 uw342 => ?_)
                  have c343 := sf_ma kw342 (p := 117) rfl
                  have c344 := sf_ma kw342 (p := 110) rfl
                  have c345 := sf_ma kw342 (p := 122) rfl
                  clear kw342
                  refine sf_aload rfl ?_
                  refine sf_geti Iw342 rfl rfl (fun v346 lv346 uv346 ev346 => ?_)
                  rw [uw342] at ev346
                  refine sf_f1_le (fun h347 => absurd h347 (by omega)) (fun h347 => ?_)
                  refine sf_lconst (by decide : (0 : Int64).toInt = 0) (fun z348 ez348 => ?_)
                  refine sf_lreturn rfl rfl ?_
                  exact hR _ _ Iw342 sw342 (by rw [uw342]; exact Or.inl ⟨by omega, by omega⟩) (by rw [uw342]; rw [c344]; exact Or.inl ⟨by omega, rfl⟩) (by rw [uw342]; rw [c344]; rw [c345]; exact Or.inl ⟨by omega, rfl⟩)
                · refine sf_iload rfl ?_
                  refine sf_iconst sf_c1000 (fun z349 ez349 => ?_)
                  refine sf_f2_gt (fun h350 => ?_) (fun h350 => ?_)
                  · refine sf_iconst sf_c0 (fun z351 ez351 => ?_)
                    refine sf_zreturn (by omega) rfl rfl ?_
                    refine sf_f1_eq (fun h352 => ?_) (fun h352 => absurd h352 (by omega))
                    refine sf_iconst sf_c1 (fun z353 ez353 => ?_)
                    refine sf_puti hI0 hs0 rfl rfl (sf_bd _) rfl rfl rfl (fun w354 Iw354 sw354 kw354 uw354 => ?_)
                    have c355 := sf_ma kw354 (p := 117) rfl
                    have c356 := sf_ma kw354 (p := 110) rfl
                    have c357 := sf_ma kw354 (p := 122) rfl
                    clear kw354
                    refine sf_aload rfl ?_
                    refine sf_geti Iw354 rfl rfl (fun v358 lv358 uv358 ev358 => ?_)
                    rw [uw354] at ev358
                    refine sf_f1_le (fun h359 => absurd h359 (by omega)) (fun h359 => ?_)
                    refine sf_lconst (by decide : (0 : Int64).toInt = 0) (fun z360 ez360 => ?_)
                    refine sf_lreturn rfl rfl ?_
                    exact hR _ _ Iw354 sw354 (by rw [uw354]; exact Or.inl ⟨by omega, by omega⟩) (by rw [uw354]; rw [c356]; exact Or.inl ⟨by omega, rfl⟩) (by rw [uw354]; rw [c356]; rw [c357]; exact Or.inl ⟨by omega, rfl⟩)
                  · refine sf_iconst sf_c1 (fun z361 ez361 => ?_)
                    refine sf_zreturn (by omega) rfl rfl ?_
                    refine sf_f1_eq (fun h362 => absurd h362 (by omega)) (fun h362 => ?_)
                    refine sf_aload rfl ?_
                    refine sf_iload rfl ?_
                    refine sf_call2 rfl rfl rfl ?_
                    refine sf_rv hI0 rfl ?_
                    refine sc_M_isWhole hI0 (by omega) (by omega) (fun v363 lv363 uv363 q364_0 => ?_)
                    have gwh := q364_0
                    refine sf_f1_eq (fun h365 => ?_) (fun h365 => ?_)
                    · refine sf_iconst sf_c2 (fun z366 ez366 => ?_)
                      refine sf_puti hI0 hs0 rfl rfl (sf_bd _) rfl rfl rfl (fun w367 Iw367 sw367 kw367 uw367 => ?_)
                      have c368 := sf_ma kw367 (p := 117) rfl
                      have c369 := sf_ma kw367 (p := 110) rfl
                      have c370 := sf_ma kw367 (p := 122) rfl
                      clear kw367
                      refine sf_aload rfl ?_
                      refine sf_geti Iw367 rfl rfl (fun v371 lv371 uv371 ev371 => ?_)
                      rw [uw367] at ev371
                      refine sf_f1_le (fun h372 => absurd h372 (by omega)) (fun h372 => ?_)
                      refine sf_lconst (by decide : (0 : Int64).toInt = 0) (fun z373 ez373 => ?_)
                      refine sf_lreturn rfl rfl ?_
                      exact hR _ _ Iw367 sw367 (by rw [uw367]; exact Or.inr (Or.inl ⟨by omega, by omega, fun h9 => absurd (gwh.mpr h9) (by omega)⟩)) (by rw [uw367]; rw [c369]; exact Or.inl ⟨by omega, rfl⟩) (by rw [uw367]; rw [c369]; rw [c370]; exact Or.inl ⟨by omega, rfl⟩)
                    · refine sf_aload rfl ?_
                      refine sf_iload rfl ?_
                      refine sf_call2 rfl rfl rfl ?_
                      refine sf_rv hI0 rfl ?_
                      refine sc_M_find_K hI0 (by omega) (by omega) (by exact p0) (fun v374 w375 Iw375 tw375 lv374 uv374 q376_0 q376_1 => ?_)
                      have s377 := sf_mt hs0 tw375 rfl
                      have c378 := sf_mf tw375 (p := 71) (j := 0) rfl
                      have c379 := sf_ma tw375 (p := 110) rfl
                      have c380 := sf_ma tw375 (p := 122) rfl
                      have r2 := q376_0
                      rw [sf_ma s377 (p := 104) rfl] at r2
                      have gca := q376_1
                      refine sf_f1_eq (fun h381 => ?_) (fun h381 => ?_)
                      · refine sf_iconst sf_c3 (fun z382 ez382 => ?_)
                        refine sf_puti Iw375 s377 rfl rfl (sf_bd _) rfl rfl rfl (fun w383 Iw383 sw383 kw383 uw383 => ?_)
                        have c384 := sf_ma kw383 (p := 117) rfl
                        have c385 := sf_ma kw383 (p := 110) rfl
                        have c386 := sf_ma kw383 (p := 122) rfl
                        clear kw383
                        refine sf_aload rfl ?_
                        refine sf_geti Iw383 rfl rfl (fun v387 lv387 uv387 ev387 => ?_)
                        rw [uw383] at ev387
                        refine sf_f1_le (fun h388 => absurd h388 (by omega)) (fun h388 => ?_)
                        refine sf_lconst (by decide : (0 : Int64).toInt = 0) (fun z389 ez389 => ?_)
                        refine sf_lreturn rfl rfl ?_
                        exact hR _ _ Iw383 sw383 (by rw [uw383]; exact Or.inr (Or.inr (Or.inl ⟨by omega, by omega, gwh.mp (by omega), (fun h9 => absurd (gca.mpr h9) (by omega))⟩))) (by rw [uw383]; rw [c385, c379]; exact Or.inl ⟨by omega, rfl⟩) (by rw [uw383]; rw [c385, c379]; rw [c386, c380]; exact Or.inl ⟨by omega, rfl⟩)
                      · refine sf_iconst sf_c0 (fun z390 ez390 => ?_)
                        refine sf_puti Iw375 s377 rfl rfl (sf_bd _) rfl rfl rfl (fun w391 Iw391 sw391 kw391 uw391 => ?_)
                        have c392 := sf_ma kw391 (p := 117) rfl
                        have c393 := sf_ma kw391 (p := 110) rfl
                        have c394 := sf_ma kw391 (p := 122) rfl
                        clear kw391
                        refine sf_aload rfl ?_
                        refine sf_geti Iw391 rfl rfl (fun v395 lv395 uv395 ev395 => ?_)
                        rw [uw391] at ev395
                        refine sf_f1_le (fun h396 => ?_) (fun h396 => absurd h396 (by omega))
                        refine sf_aload rfl ?_
                        refine sf_getr Iw391 rfl rfl ?_
                        refine sf_iconst sf_c3 (fun z397 ez397 => ?_)
                        refine sf_iconst sf_c4 (fun z398 ez398 => ?_)
                        refine sf_iload rfl ?_
                        refine sf_imull (n := 4) (by omega) (by omega) (fun v399 ev399 => ?_)
                        refine sf_iload rfl ?_
                        refine sf_iadd (by omega) (fun v400 ev400 => ?_)
                        refine sf_imull (n := 3) (by omega) (by omega) (fun v401 ev401 => ?_)
                        refine sf_iload rfl ?_
                        refine sf_iadd (by omega) (fun v402 ev402 => ?_)
                        refine sf_iload rfl ?_
                        refine sf_iastR Iw391 sw391 rfl (by omega) (sf_bd _) rfl (fun w9 h1 h2 => sf_R_fi Iw391 h1 h2 (by omega) (by omega)) (fun w403 Iw403 sw403 kw403 uw403 => ?_)
                        have c404 := sf_mf kw403 (p := 71) (j := 0) rfl
                        have c405 := sf_ma kw403 (p := 117) rfl
                        have c406 := sf_ma kw403 (p := 122) rfl
                        clear kw403
                        have gfv := uw403
                        rw [c393, c379] at gfv
                        refine sf_lconst (by decide : (0 : Int64).toInt = 0) (fun z407 ez407 => ?_)
                        refine sf_lstore (L' := [(0, .inl (.ref 71)), (1, .inl (.int a_d)), (2, .inl (.int a_l)), (3, .inl (.int a_field)), (4, .inl (.int a_v))]) rfl ?_
                        refine sf_aload rfl ?_
                        refine sf_call1 rfl rfl rfl ?_
                        refine sf_rv Iw403 rfl ?_
                        refine sc_M_mean Iw403  (fun w408 Iw408 tw408 => ?_)
                        have s410 := sf_mt sw403 tw408 rfl
                        have c411 := sf_mf tw408 (p := 71) (j := 0) rfl
                        have c412 := sf_ma tw408 (p := 117) rfl
                        have c413 := sf_ma tw408 (p := 110) rfl
                        have c414 := sf_ma tw408 (p := 122) rfl
                        refine sf_iconst sf_c0 (fun z415 ez415 => ?_)
                        refine sf_istore (L' := [(5, .inl (.long z407)), (0, .inl (.ref 71)), (1, .inl (.int a_d)), (2, .inl (.int a_l)), (3, .inl (.int a_field)), (4, .inl (.int a_v))]) rfl ?_
                        refine sf_can (L' := [(0, .inl (.ref 71)), (1, .inl (.int a_d)), (5, .inl (.long z407)), (7, .inl (.int z415))]) rfl ?_
                        exact i_95 w408 z407 z415 Iw408 s410 (by omega) (by omega) (by omega) (by omega) (by rw [c412, c405, c392]; first | exact f_2 | exact r2 (by omega)) (by rw [c411, c404, uw391]; exact ⟨by omega, by omega, gwh.mp (by omega), gca.mp (by omega)⟩) (by rw [c413]; exact sl_UMs gfv (by omega) (by omega)) (by rw [c414, c406, c394, c380]; try rfl) (by omega)
              · refine sf_iload rfl ?_
                refine sf_f1_lt (fun h416 => ?_) (fun h416 => ?_)
                · refine sf_iconst sf_c0 (fun z417 ez417 => ?_)
                  refine sf_zreturn (by omega) rfl rfl ?_
                  refine sf_f1_eq (fun h418 => ?_) (fun h418 => absurd h418 (by omega))
                  refine sf_iconst sf_c1 (fun z419 ez419 => ?_)
                  refine sf_puti hI0 hs0 rfl rfl (sf_bd _) rfl rfl rfl (fun w420 Iw420 sw420 kw420 uw420 => ?_)
                  have c421 := sf_ma kw420 (p := 117) rfl
                  have c422 := sf_ma kw420 (p := 110) rfl
                  have c423 := sf_ma kw420 (p := 122) rfl
                  clear kw420
                  refine sf_aload rfl ?_
                  refine sf_geti Iw420 rfl rfl (fun v424 lv424 uv424 ev424 => ?_)
                  rw [uw420] at ev424
                  refine sf_f1_le (fun h425 => absurd h425 (by omega)) (fun h425 => ?_)
                  refine sf_lconst (by decide : (0 : Int64).toInt = 0) (fun z426 ez426 => ?_)
                  refine sf_lreturn rfl rfl ?_
                  exact hR _ _ Iw420 sw420 (by rw [uw420]; exact Or.inl ⟨by omega, by omega⟩) (by rw [uw420]; rw [c422]; exact Or.inl ⟨by omega, rfl⟩) (by rw [uw420]; rw [c422]; rw [c423]; exact Or.inl ⟨by omega, rfl⟩)
                · refine sf_iload rfl ?_
                  refine sf_iload rfl ?_
                  refine sf_iconst sf_c1 (fun z427 ez427 => ?_)
                  refine sf_f2_eq (fun h428 => ?_) (fun h428 => ?_)
                  · refine sf_iconst sf_cl1000000 (fun z429 ez429 => ?_)
                    refine sf_f2_gt (fun h430 => ?_) (fun h430 => ?_)
                    · refine sf_iconst sf_c0 (fun z431 ez431 => ?_)
                      refine sf_zreturn (by omega) rfl rfl ?_
                      refine sf_f1_eq (fun h432 => ?_) (fun h432 => absurd h432 (by omega))
                      refine sf_iconst sf_c1 (fun z433 ez433 => ?_)
                      refine sf_puti hI0 hs0 rfl rfl (sf_bd _) rfl rfl rfl (fun w434 Iw434 sw434 kw434 uw434 => ?_)
                      have c435 := sf_ma kw434 (p := 117) rfl
                      have c436 := sf_ma kw434 (p := 110) rfl
                      have c437 := sf_ma kw434 (p := 122) rfl
                      clear kw434
                      refine sf_aload rfl ?_
                      refine sf_geti Iw434 rfl rfl (fun v438 lv438 uv438 ev438 => ?_)
                      rw [uw434] at ev438
                      refine sf_f1_le (fun h439 => absurd h439 (by omega)) (fun h439 => ?_)
                      refine sf_lconst (by decide : (0 : Int64).toInt = 0) (fun z440 ez440 => ?_)
                      refine sf_lreturn rfl rfl ?_
                      exact hR _ _ Iw434 sw434 (by rw [uw434]; exact Or.inl ⟨by omega, by omega⟩) (by rw [uw434]; rw [c436]; exact Or.inl ⟨by omega, rfl⟩) (by rw [uw434]; rw [c436]; rw [c437]; exact Or.inl ⟨by omega, rfl⟩)
                    · refine sf_iconst sf_c1 (fun z441 ez441 => ?_)
                      refine sf_zreturn (by omega) rfl rfl ?_
                      refine sf_f1_eq (fun h442 => absurd h442 (by omega)) (fun h442 => ?_)
                      refine sf_aload rfl ?_
                      refine sf_iload rfl ?_
                      refine sf_call2 rfl rfl rfl ?_
                      refine sf_rv hI0 rfl ?_
                      refine sc_M_isWhole hI0 (by omega) (by omega) (fun v443 lv443 uv443 q444_0 => ?_)
                      have gwh := q444_0
                      refine sf_f1_eq (fun h445 => ?_) (fun h445 => ?_)
                      · refine sf_iconst sf_c2 (fun z446 ez446 => ?_)
                        refine sf_puti hI0 hs0 rfl rfl (sf_bd _) rfl rfl rfl (fun w447 Iw447 sw447 kw447 uw447 => ?_)
                        have c448 := sf_ma kw447 (p := 117) rfl
                        have c449 := sf_ma kw447 (p := 110) rfl
                        have c450 := sf_ma kw447 (p := 122) rfl
                        clear kw447
                        refine sf_aload rfl ?_
                        refine sf_geti Iw447 rfl rfl (fun v451 lv451 uv451 ev451 => ?_)
                        rw [uw447] at ev451
                        refine sf_f1_le (fun h452 => absurd h452 (by omega)) (fun h452 => ?_)
                        refine sf_lconst (by decide : (0 : Int64).toInt = 0) (fun z453 ez453 => ?_)
                        refine sf_lreturn rfl rfl ?_
                        exact hR _ _ Iw447 sw447 (by rw [uw447]; exact Or.inr (Or.inl ⟨by omega, by omega, fun h9 => absurd (gwh.mpr h9) (by omega)⟩)) (by rw [uw447]; rw [c449]; exact Or.inl ⟨by omega, rfl⟩) (by rw [uw447]; rw [c449]; rw [c450]; exact Or.inl ⟨by omega, rfl⟩)
                      · refine sf_aload rfl ?_
                        refine sf_iload rfl ?_
                        refine sf_call2 rfl rfl rfl ?_
                        refine sf_rv hI0 rfl ?_
                        refine sc_M_find_K hI0 (by omega) (by omega) (by exact p0) (fun v454 w455 Iw455 tw455 lv454 uv454 q456_0 q456_1 => ?_)
                        have s457 := sf_mt hs0 tw455 rfl
                        have c458 := sf_mf tw455 (p := 71) (j := 0) rfl
                        have c459 := sf_ma tw455 (p := 110) rfl
                        have c460 := sf_ma tw455 (p := 122) rfl
                        have r2 := q456_0
                        rw [sf_ma s457 (p := 104) rfl] at r2
                        have gca := q456_1
                        refine sf_f1_eq (fun h461 => ?_) (fun h461 => ?_)
                        · refine sf_iconst sf_c3 (fun z462 ez462 => ?_)
                          refine sf_puti Iw455 s457 rfl rfl (sf_bd _) rfl rfl rfl (fun w463 Iw463 sw463 kw463 uw463 => ?_)
                          have c464 := sf_ma kw463 (p := 117) rfl
                          have c465 := sf_ma kw463 (p := 110) rfl
                          have c466 := sf_ma kw463 (p := 122) rfl
                          clear kw463
                          refine sf_aload rfl ?_
                          refine sf_geti Iw463 rfl rfl (fun v467 lv467 uv467 ev467 => ?_)
                          rw [uw463] at ev467
                          refine sf_f1_le (fun h468 => absurd h468 (by omega)) (fun h468 => ?_)
                          refine sf_lconst (by decide : (0 : Int64).toInt = 0) (fun z469 ez469 => ?_)
                          refine sf_lreturn rfl rfl ?_
                          exact hR _ _ Iw463 sw463 (by rw [uw463]; exact Or.inr (Or.inr (Or.inl ⟨by omega, by omega, gwh.mp (by omega), (fun h9 => absurd (gca.mpr h9) (by omega))⟩))) (by rw [uw463]; rw [c465, c459]; exact Or.inl ⟨by omega, rfl⟩) (by rw [uw463]; rw [c465, c459]; rw [c466, c460]; exact Or.inl ⟨by omega, rfl⟩)
                        · refine sf_iconst sf_c0 (fun z470 ez470 => ?_)
                          refine sf_puti Iw455 s457 rfl rfl (sf_bd _) rfl rfl rfl (fun w471 Iw471 sw471 kw471 uw471 => ?_)
                          have c472 := sf_ma kw471 (p := 117) rfl
                          have c473 := sf_ma kw471 (p := 110) rfl
                          have c474 := sf_ma kw471 (p := 122) rfl
                          clear kw471
                          refine sf_aload rfl ?_
                          refine sf_geti Iw471 rfl rfl (fun v475 lv475 uv475 ev475 => ?_)
                          rw [uw471] at ev475
                          refine sf_f1_le (fun h476 => ?_) (fun h476 => absurd h476 (by omega))
                          refine sf_aload rfl ?_
                          refine sf_getr Iw471 rfl rfl ?_
                          refine sf_iconst sf_c3 (fun z477 ez477 => ?_)
                          refine sf_iconst sf_c4 (fun z478 ez478 => ?_)
                          refine sf_iload rfl ?_
                          refine sf_imull (n := 4) (by omega) (by omega) (fun v479 ev479 => ?_)
                          refine sf_iload rfl ?_
                          refine sf_iadd (by omega) (fun v480 ev480 => ?_)
                          refine sf_imull (n := 3) (by omega) (by omega) (fun v481 ev481 => ?_)
                          refine sf_iload rfl ?_
                          refine sf_iadd (by omega) (fun v482 ev482 => ?_)
                          refine sf_iload rfl ?_
                          refine sf_iastR Iw471 sw471 rfl (by omega) (sf_bd _) rfl (fun w9 h1 h2 => sf_R_fi Iw471 h1 h2 (by omega) (by omega)) (fun w483 Iw483 sw483 kw483 uw483 => ?_)
                          have c484 := sf_mf kw483 (p := 71) (j := 0) rfl
                          have c485 := sf_ma kw483 (p := 117) rfl
                          have c486 := sf_ma kw483 (p := 122) rfl
                          clear kw483
                          have gfv := uw483
                          rw [c473, c459] at gfv
                          refine sf_lconst (by decide : (0 : Int64).toInt = 0) (fun z487 ez487 => ?_)
                          refine sf_lstore (L' := [(0, .inl (.ref 71)), (1, .inl (.int a_d)), (2, .inl (.int a_l)), (3, .inl (.int a_field)), (4, .inl (.int a_v))]) rfl ?_
                          refine sf_aload rfl ?_
                          refine sf_call1 rfl rfl rfl ?_
                          refine sf_rv Iw483 rfl ?_
                          refine sc_M_mean Iw483  (fun w488 Iw488 tw488 => ?_)
                          have s490 := sf_mt sw483 tw488 rfl
                          have c491 := sf_mf tw488 (p := 71) (j := 0) rfl
                          have c492 := sf_ma tw488 (p := 117) rfl
                          have c493 := sf_ma tw488 (p := 110) rfl
                          have c494 := sf_ma tw488 (p := 122) rfl
                          refine sf_iconst sf_c0 (fun z495 ez495 => ?_)
                          refine sf_istore (L' := [(5, .inl (.long z487)), (0, .inl (.ref 71)), (1, .inl (.int a_d)), (2, .inl (.int a_l)), (3, .inl (.int a_field)), (4, .inl (.int a_v))]) rfl ?_
                          refine sf_can (L' := [(0, .inl (.ref 71)), (1, .inl (.int a_d)), (5, .inl (.long z487)), (7, .inl (.int z495))]) rfl ?_
                          exact i_95 w488 z487 z495 Iw488 s490 (by omega) (by omega) (by omega) (by omega) (by rw [c492, c485, c472]; first | exact f_2 | exact r2 (by omega)) (by rw [c491, c484, uw471]; exact ⟨by omega, by omega, gwh.mp (by omega), gca.mp (by omega)⟩) (by rw [c493]; exact sl_UMs gfv (by omega) (by omega)) (by rw [c494, c486, c474, c460]; try rfl) (by omega)
                  · refine sf_iconst sf_cl100000000 (fun z496 ez496 => ?_)
                    refine sf_f2_gt (fun h497 => ?_) (fun h497 => ?_)
                    · refine sf_iconst sf_c0 (fun z498 ez498 => ?_)
                      refine sf_zreturn (by omega) rfl rfl ?_
                      refine sf_f1_eq (fun h499 => ?_) (fun h499 => absurd h499 (by omega))
                      refine sf_iconst sf_c1 (fun z500 ez500 => ?_)
                      refine sf_puti hI0 hs0 rfl rfl (sf_bd _) rfl rfl rfl (fun w501 Iw501 sw501 kw501 uw501 => ?_)
                      have c502 := sf_ma kw501 (p := 117) rfl
                      have c503 := sf_ma kw501 (p := 110) rfl
                      have c504 := sf_ma kw501 (p := 122) rfl
                      clear kw501
                      refine sf_aload rfl ?_
                      refine sf_geti Iw501 rfl rfl (fun v505 lv505 uv505 ev505 => ?_)
                      rw [uw501] at ev505
                      refine sf_f1_le (fun h506 => absurd h506 (by omega)) (fun h506 => ?_)
                      refine sf_lconst (by decide : (0 : Int64).toInt = 0) (fun z507 ez507 => ?_)
                      refine sf_lreturn rfl rfl ?_
                      exact hR _ _ Iw501 sw501 (by rw [uw501]; exact Or.inl ⟨by omega, by omega⟩) (by rw [uw501]; rw [c503]; exact Or.inl ⟨by omega, rfl⟩) (by rw [uw501]; rw [c503]; rw [c504]; exact Or.inl ⟨by omega, rfl⟩)
                    · refine sf_iconst sf_c1 (fun z508 ez508 => ?_)
                      refine sf_zreturn (by omega) rfl rfl ?_
                      refine sf_f1_eq (fun h509 => absurd h509 (by omega)) (fun h509 => ?_)
                      refine sf_aload rfl ?_
                      refine sf_iload rfl ?_
                      refine sf_call2 rfl rfl rfl ?_
                      refine sf_rv hI0 rfl ?_
                      refine sc_M_isWhole hI0 (by omega) (by omega) (fun v510 lv510 uv510 q511_0 => ?_)
                      have gwh := q511_0
                      refine sf_f1_eq (fun h512 => ?_) (fun h512 => ?_)
                      · refine sf_iconst sf_c2 (fun z513 ez513 => ?_)
                        refine sf_puti hI0 hs0 rfl rfl (sf_bd _) rfl rfl rfl (fun w514 Iw514 sw514 kw514 uw514 => ?_)
                        have c515 := sf_ma kw514 (p := 117) rfl
                        have c516 := sf_ma kw514 (p := 110) rfl
                        have c517 := sf_ma kw514 (p := 122) rfl
                        clear kw514
                        refine sf_aload rfl ?_
                        refine sf_geti Iw514 rfl rfl (fun v518 lv518 uv518 ev518 => ?_)
                        rw [uw514] at ev518
                        refine sf_f1_le (fun h519 => absurd h519 (by omega)) (fun h519 => ?_)
                        refine sf_lconst (by decide : (0 : Int64).toInt = 0) (fun z520 ez520 => ?_)
                        refine sf_lreturn rfl rfl ?_
                        exact hR _ _ Iw514 sw514 (by rw [uw514]; exact Or.inr (Or.inl ⟨by omega, by omega, fun h9 => absurd (gwh.mpr h9) (by omega)⟩)) (by rw [uw514]; rw [c516]; exact Or.inl ⟨by omega, rfl⟩) (by rw [uw514]; rw [c516]; rw [c517]; exact Or.inl ⟨by omega, rfl⟩)
                      · refine sf_aload rfl ?_
                        refine sf_iload rfl ?_
                        refine sf_call2 rfl rfl rfl ?_
                        refine sf_rv hI0 rfl ?_
                        refine sc_M_find_K hI0 (by omega) (by omega) (by exact p0) (fun v521 w522 Iw522 tw522 lv521 uv521 q523_0 q523_1 => ?_)
                        have s524 := sf_mt hs0 tw522 rfl
                        have c525 := sf_mf tw522 (p := 71) (j := 0) rfl
                        have c526 := sf_ma tw522 (p := 110) rfl
                        have c527 := sf_ma tw522 (p := 122) rfl
                        have r2 := q523_0
                        rw [sf_ma s524 (p := 104) rfl] at r2
                        have gca := q523_1
                        refine sf_f1_eq (fun h528 => ?_) (fun h528 => ?_)
                        · refine sf_iconst sf_c3 (fun z529 ez529 => ?_)
                          refine sf_puti Iw522 s524 rfl rfl (sf_bd _) rfl rfl rfl (fun w530 Iw530 sw530 kw530 uw530 => ?_)
                          have c531 := sf_ma kw530 (p := 117) rfl
                          have c532 := sf_ma kw530 (p := 110) rfl
                          have c533 := sf_ma kw530 (p := 122) rfl
                          clear kw530
                          refine sf_aload rfl ?_
                          refine sf_geti Iw530 rfl rfl (fun v534 lv534 uv534 ev534 => ?_)
                          rw [uw530] at ev534
                          refine sf_f1_le (fun h535 => absurd h535 (by omega)) (fun h535 => ?_)
                          refine sf_lconst (by decide : (0 : Int64).toInt = 0) (fun z536 ez536 => ?_)
                          refine sf_lreturn rfl rfl ?_
                          exact hR _ _ Iw530 sw530 (by rw [uw530]; exact Or.inr (Or.inr (Or.inl ⟨by omega, by omega, gwh.mp (by omega), (fun h9 => absurd (gca.mpr h9) (by omega))⟩))) (by rw [uw530]; rw [c532, c526]; exact Or.inl ⟨by omega, rfl⟩) (by rw [uw530]; rw [c532, c526]; rw [c533, c527]; exact Or.inl ⟨by omega, rfl⟩)
                        · refine sf_iconst sf_c0 (fun z537 ez537 => ?_)
                          refine sf_puti Iw522 s524 rfl rfl (sf_bd _) rfl rfl rfl (fun w538 Iw538 sw538 kw538 uw538 => ?_)
                          have c539 := sf_ma kw538 (p := 117) rfl
                          have c540 := sf_ma kw538 (p := 110) rfl
                          have c541 := sf_ma kw538 (p := 122) rfl
                          clear kw538
                          refine sf_aload rfl ?_
                          refine sf_geti Iw538 rfl rfl (fun v542 lv542 uv542 ev542 => ?_)
                          rw [uw538] at ev542
                          refine sf_f1_le (fun h543 => ?_) (fun h543 => absurd h543 (by omega))
                          refine sf_aload rfl ?_
                          refine sf_getr Iw538 rfl rfl ?_
                          refine sf_iconst sf_c3 (fun z544 ez544 => ?_)
                          refine sf_iconst sf_c4 (fun z545 ez545 => ?_)
                          refine sf_iload rfl ?_
                          refine sf_imull (n := 4) (by omega) (by omega) (fun v546 ev546 => ?_)
                          refine sf_iload rfl ?_
                          refine sf_iadd (by omega) (fun v547 ev547 => ?_)
                          refine sf_imull (n := 3) (by omega) (by omega) (fun v548 ev548 => ?_)
                          refine sf_iload rfl ?_
                          refine sf_iadd (by omega) (fun v549 ev549 => ?_)
                          refine sf_iload rfl ?_
                          refine sf_iastR Iw538 sw538 rfl (by omega) (sf_bd _) rfl (fun w9 h1 h2 => sf_R_fi Iw538 h1 h2 (by omega) (by omega)) (fun w550 Iw550 sw550 kw550 uw550 => ?_)
                          have c551 := sf_mf kw550 (p := 71) (j := 0) rfl
                          have c552 := sf_ma kw550 (p := 117) rfl
                          have c553 := sf_ma kw550 (p := 122) rfl
                          clear kw550
                          have gfv := uw550
                          rw [c540, c526] at gfv
                          refine sf_lconst (by decide : (0 : Int64).toInt = 0) (fun z554 ez554 => ?_)
                          refine sf_lstore (L' := [(0, .inl (.ref 71)), (1, .inl (.int a_d)), (2, .inl (.int a_l)), (3, .inl (.int a_field)), (4, .inl (.int a_v))]) rfl ?_
                          refine sf_aload rfl ?_
                          refine sf_call1 rfl rfl rfl ?_
                          refine sf_rv Iw550 rfl ?_
                          refine sc_M_mean Iw550  (fun w555 Iw555 tw555 => ?_)
                          have s557 := sf_mt sw550 tw555 rfl
                          have c558 := sf_mf tw555 (p := 71) (j := 0) rfl
                          have c559 := sf_ma tw555 (p := 117) rfl
                          have c560 := sf_ma tw555 (p := 110) rfl
                          have c561 := sf_ma tw555 (p := 122) rfl
                          refine sf_iconst sf_c0 (fun z562 ez562 => ?_)
                          refine sf_istore (L' := [(5, .inl (.long z554)), (0, .inl (.ref 71)), (1, .inl (.int a_d)), (2, .inl (.int a_l)), (3, .inl (.int a_field)), (4, .inl (.int a_v))]) rfl ?_
                          refine sf_can (L' := [(0, .inl (.ref 71)), (1, .inl (.int a_d)), (5, .inl (.long z554)), (7, .inl (.int z562))]) rfl ?_
                          exact i_95 w555 z554 z562 Iw555 s557 (by omega) (by omega) (by omega) (by omega) (by rw [c559, c552, c539]; first | exact f_2 | exact r2 (by omega)) (by rw [c558, c551, uw538]; exact ⟨by omega, by omega, gwh.mp (by omega), gca.mp (by omega)⟩) (by rw [c560]; exact sl_UMs gfv (by omega) (by omega)) (by rw [c561, c553, c541, c527]; try rfl) (by omega)
def sm_M_release : List Nat := [71, 123, 127, 8100, 8166]
set_option maxRecDepth 100000 in
set_option maxHeartbeats 4000000 in
theorem sc_M_release {w0 : wq_W} (hI0 : sf_I w0) {rt : Option wq_V → wq_W → Prop} {xt : Nat → wq_W → Prop} {a_good : Int32} {a_units : Int32} (p0 : sl_B (sf_a w0 122) (sf_a w0 123)) (hR : ∀ (r : Int64) (w : wq_W), sf_I w → sf_m sm_M_release w0 w → ((((sf_f w 71 0).toInt = 0 ∧ (0 ≤ a_good.toInt ∧ a_good.toInt ≤ 15 ∧ 1 ≤ a_units.toInt ∧ a_units.toInt ≤ 1000) ∧ (a_units.toInt ≤ (sl_S (sl_mt (sf_a w0 121) (sf_a w0 125) a_good.toInt 1) (sl_v (sf_a w0 122) (sf_a w0 123)) (sf_f w0 71 56).toInt.toNat)) ∧ a_good.toInt = a_good.toInt) ∨ ((sf_f w 71 0).toInt = 1 ∧ ¬ (0 ≤ a_good.toInt ∧ a_good.toInt ≤ 15 ∧ 1 ≤ a_units.toInt ∧ a_units.toInt ≤ 1000)) ∨ ((sf_f w 71 0).toInt = 2 ∧ (0 ≤ a_good.toInt ∧ a_good.toInt ≤ 15 ∧ 1 ≤ a_units.toInt ∧ a_units.toInt ≤ 1000) ∧ ¬ (a_units.toInt ≤ (sl_S (sl_mt (sf_a w0 121) (sf_a w0 125) a_good.toInt 1) (sl_v (sf_a w0 122) (sf_a w0 123)) (sf_f w0 71 56).toInt.toNat))))) → ((((sf_f w 71 0).toInt ≠ 0 ∧ sf_a w 123 = sf_a w0 123) ∨ ((sf_f w 71 0).toInt = 0 ∧ sl_T (sf_a w0 123) (sf_a w 123) (sl_mt (sf_a w0 121) (sf_a w0 125) a_good.toInt 1) (sl_v (sf_a w0 122) (sf_a w0 123)) a_units.toInt (sf_f w0 71 56).toInt.toNat))) → ((((sf_f w 71 0).toInt ≠ 0 ∧ sf_a w 127 = sf_a w0 127) ∨ ((sf_f w 71 0).toInt = 0 ∧ sf_a w 127 = upd (sf_a w0 127) a_good.toInt.toNat (sf_a w0 127 a_good.toInt.toNat + a_units)))) → rt (some (.inl (.long r))) w) : ks_M_release [.inl (.ref 71), .inl (.int a_good), .inl (.int a_units)] w0 rt xt := by
  have hs0 : sf_m sm_M_release w0 w0 := sf_m0
  refine sf_sp (L := [(0, .inl (.ref 71)), (1, .inl (.int a_good)), (2, .inl (.int a_units))]) rfl rfl ?_
  refine sf_aload rfl ?_
  refine sf_iload rfl ?_
  refine sf_iconst sf_c0 (fun z1 ez1 => ?_)
  refine sf_iconst sf_c15 (fun z2 ez2 => ?_)
  refine sf_call3 rfl rfl rfl ?_
  refine sf_sp (L := [(0, .inl (.int a_good)), (1, .inl (.int z1)), (2, .inl (.int z2))]) rfl rfl ?_
  refine sf_iload rfl ?_
  refine sf_iload rfl ?_
  refine sf_f2_lt (fun h3 => ?_) (fun h3 => ?_)
  · refine sf_iconst sf_c0 (fun z4 ez4 => ?_)
    refine sf_zreturn (by omega) rfl rfl ?_
    refine sf_f1_eq (fun h5 => ?_) (fun h5 => absurd h5 (by omega))
    refine sf_iconst sf_c1 (fun z6 ez6 => ?_)
    refine sf_puti hI0 hs0 rfl rfl (sf_bd _) rfl rfl rfl (fun w7 Iw7 sw7 kw7 uw7 => ?_)
    have c8 := sf_ma kw7 (p := 123) rfl
    have c9 := sf_ma kw7 (p := 127) rfl
    clear kw7
    refine sf_aload rfl ?_
    refine sf_geti Iw7 rfl rfl (fun v10 lv10 uv10 ev10 => ?_)
    rw [uw7] at ev10
    refine sf_f1_le (fun h11 => absurd h11 (by omega)) (fun h11 => ?_)
    refine sf_lconst (by decide : (0 : Int64).toInt = 0) (fun z12 ez12 => ?_)
    refine sf_lreturn rfl rfl ?_
    exact hR _ _ Iw7 sw7 (by rw [uw7]; first | (refine Or.inl ⟨by omega, ?_⟩; omega) | (refine Or.inr (Or.inl ⟨by omega, ?_⟩); omega) | (refine Or.inr (Or.inr ⟨by omega, ?_⟩); omega)) (by rw [uw7]; rw [c8]; exact Or.inl ⟨by omega, rfl⟩) (by rw [uw7]; rw [c9]; exact Or.inl ⟨by omega, rfl⟩)
  · refine sf_iload rfl ?_
    refine sf_iload rfl ?_
    refine sf_f2_gt (fun h13 => ?_) (fun h13 => ?_)
    · refine sf_iconst sf_c0 (fun z14 ez14 => ?_)
      refine sf_zreturn (by omega) rfl rfl ?_
      refine sf_f1_eq (fun h15 => ?_) (fun h15 => absurd h15 (by omega))
      refine sf_iconst sf_c1 (fun z16 ez16 => ?_)
      refine sf_puti hI0 hs0 rfl rfl (sf_bd _) rfl rfl rfl (fun w17 Iw17 sw17 kw17 uw17 => ?_)
      have c18 := sf_ma kw17 (p := 123) rfl
      have c19 := sf_ma kw17 (p := 127) rfl
      clear kw17
      refine sf_aload rfl ?_
      refine sf_geti Iw17 rfl rfl (fun v20 lv20 uv20 ev20 => ?_)
      rw [uw17] at ev20
      refine sf_f1_le (fun h21 => absurd h21 (by omega)) (fun h21 => ?_)
      refine sf_lconst (by decide : (0 : Int64).toInt = 0) (fun z22 ez22 => ?_)
      refine sf_lreturn rfl rfl ?_
      exact hR _ _ Iw17 sw17 (by rw [uw17]; first | (refine Or.inl ⟨by omega, ?_⟩; omega) | (refine Or.inr (Or.inl ⟨by omega, ?_⟩); omega) | (refine Or.inr (Or.inr ⟨by omega, ?_⟩); omega)) (by rw [uw17]; rw [c18]; exact Or.inl ⟨by omega, rfl⟩) (by rw [uw17]; rw [c19]; exact Or.inl ⟨by omega, rfl⟩)
    · refine sf_iconst sf_c1 (fun z23 ez23 => ?_)
      refine sf_zreturn (by omega) rfl rfl ?_
      refine sf_f1_eq (fun h24 => absurd h24 (by omega)) (fun h24 => ?_)
      refine sf_iconst sf_c0 (fun z25 ez25 => ?_)
      refine sf_iload rfl ?_
      refine sf_call2 rfl rfl rfl ?_
      refine sf_sp (L := [(0, .inl (.int z25)), (1, .inl (.int a_units))]) rfl rfl ?_
      refine sf_iload rfl ?_
      refine sf_f1_eq (fun h26 => ?_) (fun h26 => absurd h26 (by omega))
      refine sf_iload rfl ?_
      refine sf_iconst sf_c1 (fun z27 ez27 => ?_)
      refine sf_f2_lt (fun h28 => ?_) (fun h28 => ?_)
      · refine sf_iconst sf_c0 (fun z29 ez29 => ?_)
        refine sf_zreturn (by omega) rfl rfl ?_
        refine sf_f1_eq (fun h30 => ?_) (fun h30 => absurd h30 (by omega))
        refine sf_iconst sf_c1 (fun z31 ez31 => ?_)
        refine sf_puti hI0 hs0 rfl rfl (sf_bd _) rfl rfl rfl (fun w32 Iw32 sw32 kw32 uw32 => ?_)
        have c33 := sf_ma kw32 (p := 123) rfl
        have c34 := sf_ma kw32 (p := 127) rfl
        clear kw32
        refine sf_aload rfl ?_
        refine sf_geti Iw32 rfl rfl (fun v35 lv35 uv35 ev35 => ?_)
        rw [uw32] at ev35
        refine sf_f1_le (fun h36 => absurd h36 (by omega)) (fun h36 => ?_)
        refine sf_lconst (by decide : (0 : Int64).toInt = 0) (fun z37 ez37 => ?_)
        refine sf_lreturn rfl rfl ?_
        exact hR _ _ Iw32 sw32 (by rw [uw32]; first | (refine Or.inl ⟨by omega, ?_⟩; omega) | (refine Or.inr (Or.inl ⟨by omega, ?_⟩); omega) | (refine Or.inr (Or.inr ⟨by omega, ?_⟩); omega)) (by rw [uw32]; rw [c33]; exact Or.inl ⟨by omega, rfl⟩) (by rw [uw32]; rw [c34]; exact Or.inl ⟨by omega, rfl⟩)
      · refine sf_iload rfl ?_
        refine sf_iconst sf_c1000 (fun z38 ez38 => ?_)
        refine sf_f2_gt (fun h39 => ?_) (fun h39 => ?_)
        · refine sf_iconst sf_c0 (fun z40 ez40 => ?_)
          refine sf_zreturn (by omega) rfl rfl ?_
          refine sf_f1_eq (fun h41 => ?_) (fun h41 => absurd h41 (by omega))
          refine sf_iconst sf_c1 (fun z42 ez42 => ?_)
          refine sf_puti hI0 hs0 rfl rfl (sf_bd _) rfl rfl rfl (fun w43 Iw43 sw43 kw43 uw43 => ?_)
          have c44 := sf_ma kw43 (p := 123) rfl
          have c45 := sf_ma kw43 (p := 127) rfl
          clear kw43
          refine sf_aload rfl ?_
          refine sf_geti Iw43 rfl rfl (fun v46 lv46 uv46 ev46 => ?_)
          rw [uw43] at ev46
          refine sf_f1_le (fun h47 => absurd h47 (by omega)) (fun h47 => ?_)
          refine sf_lconst (by decide : (0 : Int64).toInt = 0) (fun z48 ez48 => ?_)
          refine sf_lreturn rfl rfl ?_
          exact hR _ _ Iw43 sw43 (by rw [uw43]; first | (refine Or.inl ⟨by omega, ?_⟩; omega) | (refine Or.inr (Or.inl ⟨by omega, ?_⟩); omega) | (refine Or.inr (Or.inr ⟨by omega, ?_⟩); omega)) (by rw [uw43]; rw [c44]; exact Or.inl ⟨by omega, rfl⟩) (by rw [uw43]; rw [c45]; exact Or.inl ⟨by omega, rfl⟩)
        · refine sf_iconst sf_c1 (fun z49 ez49 => ?_)
          refine sf_zreturn (by omega) rfl rfl ?_
          refine sf_f1_eq (fun h50 => absurd h50 (by omega)) (fun h50 => ?_)
          refine sf_aload rfl ?_
          refine sf_iload rfl ?_
          refine sf_iconst sf_c1 (fun z51 ez51 => ?_)
          refine sf_call3 rfl rfl rfl ?_
          refine sf_rv hI0 rfl ?_
          refine sc_M_left hI0 (by omega) (by omega) (by exact p0) (fun v52 lv52 uv52 q53_0 => ?_)
          have gS := q53_0
          rw [show z51.toInt = 1 by omega] at gS
          refine sf_iload rfl ?_
          refine sf_f2_ge (fun h54 => ?_) (fun h54 => ?_)
          · refine sf_iconst sf_c0 (fun z55 ez55 => ?_)
            refine sf_puti hI0 hs0 rfl rfl (sf_bd _) rfl rfl rfl (fun w56 Iw56 sw56 kw56 uw56 => ?_)
            have c57 := sf_ma kw56 (p := 123) rfl
            have c58 := sf_ma kw56 (p := 127) rfl
            clear kw56
            refine sf_aload rfl ?_
            refine sf_geti Iw56 rfl rfl (fun v59 lv59 uv59 ev59 => ?_)
            rw [uw56] at ev59
            refine sf_f1_le (fun h60 => ?_) (fun h60 => absurd h60 (by omega))
            refine sf_aload rfl ?_
            refine sf_iload rfl ?_
            refine sf_iload rfl ?_
            refine sf_iconst sf_c1 (fun z61 ez61 => ?_)
            refine sf_call4 rfl rfl rfl ?_
            refine sf_rv Iw56 rfl ?_
            refine sc_M_take Iw56 (by omega) (by omega) (by omega) (by omega) (by rw [sf_ma sw56 (p := 122) rfl]; rw [c57]; exact p0) (fun v62 w63 Iw63 tw63 q64_0 => ?_)
            rw [sf_ma sw56 (p := 121) rfl] at q64_0
            rw [sf_ma sw56 (p := 122) rfl] at q64_0
            rw [c57] at q64_0
            rw [sf_ma sw56 (p := 125) rfl] at q64_0
            rw [sf_mf sw56 (p := 71) (j := 56) rfl] at q64_0
            have s65 := sf_mt sw56 tw63 rfl
            have c66 := sf_mf tw63 (p := 71) (j := 0) rfl
            have c67 := sf_ma tw63 (p := 127) rfl
            have gT := q64_0
            rw [show z61.toInt = 1 by omega] at gT
            refine sf_lstore (L' := [(0, .inl (.ref 71)), (1, .inl (.int a_good)), (2, .inl (.int a_units))]) rfl ?_
            refine sf_aload rfl ?_
            refine sf_getr Iw63 rfl rfl ?_
            refine sf_iload rfl ?_
            refine sf_aload rfl ?_
            refine sf_getr Iw63 rfl rfl ?_
            refine sf_iload rfl ?_
            refine sf_iald Iw63 rfl (by omega) (fun v68 lv68 uv68 ev68 => ?_)
            clear lv68 uv68
            rw [c67, c58] at ev68
            refine sf_iload rfl ?_
            refine sf_i2e (fun v69 ev69 => ?_)
            refine sf_iast Iw63 s65 rfl (by omega) (sf_bd _) rfl rfl (fun w70 Iw70 sw70 kw70 uw70 => ?_)
            have c71 := sf_mf kw70 (p := 71) (j := 0) rfl
            have c72 := sf_ma kw70 (p := 123) rfl
            clear kw70
            have gR := uw70
            rw [c67, c58] at gR
            have gRv : v69 = sf_a w0 127 a_good.toInt.toNat + a_units := by rw [ev69, sb_eq ev68]
            rw [gRv] at gR
            refine sf_aload rfl ?_
            refine sf_aload rfl ?_
            refine sf_getl Iw70 rfl rfl (fun v73 => ?_)
            refine sf_lload rfl ?_
            refine sf_l2 (fun v74 => ?_)
            refine sf_putl Iw70 sw70 rfl rfl rfl rfl rfl (fun w75 Iw75 sw75 kw75 uw75 => ?_)
            have c76 := sf_mf kw75 (p := 71) (j := 0) rfl
            have c77 := sf_ma kw75 (p := 123) rfl
            have c78 := sf_ma kw75 (p := 127) rfl
            clear kw75 uw75
            refine sf_lload rfl ?_
            refine sf_lreturn rfl rfl ?_
            exact hR _ _ Iw75 sw75 (by rw [c76, c71, c66, uw56]; first | (refine Or.inl ⟨by omega, ?_⟩; omega) | (refine Or.inr (Or.inl ⟨by omega, ?_⟩); omega) | (refine Or.inr (Or.inr ⟨by omega, ?_⟩); omega)) (by rw [c76, c71, c66, uw56]; rw [c77, c72]; exact Or.inr ⟨by omega, gT⟩) (by rw [c76, c71, c66, uw56]; rw [c78]; exact Or.inr ⟨by omega, gR⟩)
          · refine sf_iconst sf_c2 (fun z79 ez79 => ?_)
            refine sf_puti hI0 hs0 rfl rfl (sf_bd _) rfl rfl rfl (fun w80 Iw80 sw80 kw80 uw80 => ?_)
            have c81 := sf_ma kw80 (p := 123) rfl
            have c82 := sf_ma kw80 (p := 127) rfl
            clear kw80
            refine sf_aload rfl ?_
            refine sf_geti Iw80 rfl rfl (fun v83 lv83 uv83 ev83 => ?_)
            rw [uw80] at ev83
            refine sf_f1_le (fun h84 => absurd h84 (by omega)) (fun h84 => ?_)
            refine sf_lconst (by decide : (0 : Int64).toInt = 0) (fun z85 ez85 => ?_)
            refine sf_lreturn rfl rfl ?_
            exact hR _ _ Iw80 sw80 (by rw [uw80]; first | (refine Or.inl ⟨by omega, ?_⟩; omega) | (refine Or.inr (Or.inl ⟨by omega, ?_⟩); omega) | (refine Or.inr (Or.inr ⟨by omega, ?_⟩); omega)) (by rw [uw80]; rw [c81]; exact Or.inl ⟨by omega, rfl⟩) (by rw [uw80]; rw [c82]; exact Or.inl ⟨by omega, rfl⟩)
def sm_M_export : List Nat := [71, 123, 8100, 8167]
set_option maxRecDepth 100000 in
set_option maxHeartbeats 4000000 in
theorem sc_M_export {w0 : wq_W} (hI0 : sf_I w0) {rt : Option wq_V → wq_W → Prop} {xt : Nat → wq_W → Prop} {a_good : Int32} {a_units : Int32} (p0 : sl_B (sf_a w0 122) (sf_a w0 123)) (hR : ∀ (r : Int64) (w : wq_W), sf_I w → sf_m sm_M_export w0 w → ((((sf_f w 71 0).toInt = 0 ∧ (0 ≤ a_good.toInt ∧ a_good.toInt ≤ 15 ∧ 1 ≤ a_units.toInt ∧ a_units.toInt ≤ 1000) ∧ (a_units.toInt ≤ (sl_S (sl_mt (sf_a w0 121) (sf_a w0 125) a_good.toInt 0) (sl_v (sf_a w0 122) (sf_a w0 123)) (sf_f w0 71 56).toInt.toNat)) ∧ a_good.toInt = a_good.toInt) ∨ ((sf_f w 71 0).toInt = 1 ∧ ¬ (0 ≤ a_good.toInt ∧ a_good.toInt ≤ 15 ∧ 1 ≤ a_units.toInt ∧ a_units.toInt ≤ 1000)) ∨ ((sf_f w 71 0).toInt = 2 ∧ (0 ≤ a_good.toInt ∧ a_good.toInt ≤ 15 ∧ 1 ≤ a_units.toInt ∧ a_units.toInt ≤ 1000) ∧ ¬ (a_units.toInt ≤ (sl_S (sl_mt (sf_a w0 121) (sf_a w0 125) a_good.toInt 0) (sl_v (sf_a w0 122) (sf_a w0 123)) (sf_f w0 71 56).toInt.toNat))))) → ((((sf_f w 71 0).toInt ≠ 0 ∧ sf_a w 123 = sf_a w0 123) ∨ ((sf_f w 71 0).toInt = 0 ∧ sl_T (sf_a w0 123) (sf_a w 123) (sl_mt (sf_a w0 121) (sf_a w0 125) a_good.toInt 0) (sl_v (sf_a w0 122) (sf_a w0 123)) a_units.toInt (sf_f w0 71 56).toInt.toNat))) → rt (some (.inl (.long r))) w) : ks_M_export [.inl (.ref 71), .inl (.int a_good), .inl (.int a_units)] w0 rt xt := by
  have hs0 : sf_m sm_M_export w0 w0 := sf_m0
  refine sf_sp (L := [(0, .inl (.ref 71)), (1, .inl (.int a_good)), (2, .inl (.int a_units))]) rfl rfl ?_
  refine sf_aload rfl ?_
  refine sf_iload rfl ?_
  refine sf_iconst sf_c0 (fun z1 ez1 => ?_)
  refine sf_iconst sf_c15 (fun z2 ez2 => ?_)
  refine sf_call3 rfl rfl rfl ?_
  refine sf_sp (L := [(0, .inl (.int a_good)), (1, .inl (.int z1)), (2, .inl (.int z2))]) rfl rfl ?_
  refine sf_iload rfl ?_
  refine sf_iload rfl ?_
  refine sf_f2_lt (fun h3 => ?_) (fun h3 => ?_)
  · refine sf_iconst sf_c0 (fun z4 ez4 => ?_)
    refine sf_zreturn (by omega) rfl rfl ?_
    refine sf_f1_eq (fun h5 => ?_) (fun h5 => absurd h5 (by omega))
    refine sf_iconst sf_c1 (fun z6 ez6 => ?_)
    refine sf_puti hI0 hs0 rfl rfl (sf_bd _) rfl rfl rfl (fun w7 Iw7 sw7 kw7 uw7 => ?_)
    have c8 := sf_ma kw7 (p := 123) rfl
    clear kw7
    refine sf_aload rfl ?_
    refine sf_geti Iw7 rfl rfl (fun v9 lv9 uv9 ev9 => ?_)
    rw [uw7] at ev9
    refine sf_f1_le (fun h10 => absurd h10 (by omega)) (fun h10 => ?_)
    refine sf_lconst (by decide : (0 : Int64).toInt = 0) (fun z11 ez11 => ?_)
    refine sf_lreturn rfl rfl ?_
    exact hR _ _ Iw7 sw7 (by rw [uw7]; first | (refine Or.inl ⟨by omega, ?_⟩; omega) | (refine Or.inr (Or.inl ⟨by omega, ?_⟩); omega) | (refine Or.inr (Or.inr ⟨by omega, ?_⟩); omega)) (by rw [uw7]; rw [c8]; exact Or.inl ⟨by omega, rfl⟩)
  · refine sf_iload rfl ?_
    refine sf_iload rfl ?_
    refine sf_f2_gt (fun h12 => ?_) (fun h12 => ?_)
    · refine sf_iconst sf_c0 (fun z13 ez13 => ?_)
      refine sf_zreturn (by omega) rfl rfl ?_
      refine sf_f1_eq (fun h14 => ?_) (fun h14 => absurd h14 (by omega))
      refine sf_iconst sf_c1 (fun z15 ez15 => ?_)
      refine sf_puti hI0 hs0 rfl rfl (sf_bd _) rfl rfl rfl (fun w16 Iw16 sw16 kw16 uw16 => ?_)
      have c17 := sf_ma kw16 (p := 123) rfl
      clear kw16
      refine sf_aload rfl ?_
      refine sf_geti Iw16 rfl rfl (fun v18 lv18 uv18 ev18 => ?_)
      rw [uw16] at ev18
      refine sf_f1_le (fun h19 => absurd h19 (by omega)) (fun h19 => ?_)
      refine sf_lconst (by decide : (0 : Int64).toInt = 0) (fun z20 ez20 => ?_)
      refine sf_lreturn rfl rfl ?_
      exact hR _ _ Iw16 sw16 (by rw [uw16]; first | (refine Or.inl ⟨by omega, ?_⟩; omega) | (refine Or.inr (Or.inl ⟨by omega, ?_⟩); omega) | (refine Or.inr (Or.inr ⟨by omega, ?_⟩); omega)) (by rw [uw16]; rw [c17]; exact Or.inl ⟨by omega, rfl⟩)
    · refine sf_iconst sf_c1 (fun z21 ez21 => ?_)
      refine sf_zreturn (by omega) rfl rfl ?_
      refine sf_f1_eq (fun h22 => absurd h22 (by omega)) (fun h22 => ?_)
      refine sf_iconst sf_c0 (fun z23 ez23 => ?_)
      refine sf_iload rfl ?_
      refine sf_call2 rfl rfl rfl ?_
      refine sf_sp (L := [(0, .inl (.int z23)), (1, .inl (.int a_units))]) rfl rfl ?_
      refine sf_iload rfl ?_
      refine sf_f1_eq (fun h24 => ?_) (fun h24 => absurd h24 (by omega))
      refine sf_iload rfl ?_
      refine sf_iconst sf_c1 (fun z25 ez25 => ?_)
      refine sf_f2_lt (fun h26 => ?_) (fun h26 => ?_)
      · refine sf_iconst sf_c0 (fun z27 ez27 => ?_)
        refine sf_zreturn (by omega) rfl rfl ?_
        refine sf_f1_eq (fun h28 => ?_) (fun h28 => absurd h28 (by omega))
        refine sf_iconst sf_c1 (fun z29 ez29 => ?_)
        refine sf_puti hI0 hs0 rfl rfl (sf_bd _) rfl rfl rfl (fun w30 Iw30 sw30 kw30 uw30 => ?_)
        have c31 := sf_ma kw30 (p := 123) rfl
        clear kw30
        refine sf_aload rfl ?_
        refine sf_geti Iw30 rfl rfl (fun v32 lv32 uv32 ev32 => ?_)
        rw [uw30] at ev32
        refine sf_f1_le (fun h33 => absurd h33 (by omega)) (fun h33 => ?_)
        refine sf_lconst (by decide : (0 : Int64).toInt = 0) (fun z34 ez34 => ?_)
        refine sf_lreturn rfl rfl ?_
        exact hR _ _ Iw30 sw30 (by rw [uw30]; first | (refine Or.inl ⟨by omega, ?_⟩; omega) | (refine Or.inr (Or.inl ⟨by omega, ?_⟩); omega) | (refine Or.inr (Or.inr ⟨by omega, ?_⟩); omega)) (by rw [uw30]; rw [c31]; exact Or.inl ⟨by omega, rfl⟩)
      · refine sf_iload rfl ?_
        refine sf_iconst sf_c1000 (fun z35 ez35 => ?_)
        refine sf_f2_gt (fun h36 => ?_) (fun h36 => ?_)
        · refine sf_iconst sf_c0 (fun z37 ez37 => ?_)
          refine sf_zreturn (by omega) rfl rfl ?_
          refine sf_f1_eq (fun h38 => ?_) (fun h38 => absurd h38 (by omega))
          refine sf_iconst sf_c1 (fun z39 ez39 => ?_)
          refine sf_puti hI0 hs0 rfl rfl (sf_bd _) rfl rfl rfl (fun w40 Iw40 sw40 kw40 uw40 => ?_)
          have c41 := sf_ma kw40 (p := 123) rfl
          clear kw40
          refine sf_aload rfl ?_
          refine sf_geti Iw40 rfl rfl (fun v42 lv42 uv42 ev42 => ?_)
          rw [uw40] at ev42
          refine sf_f1_le (fun h43 => absurd h43 (by omega)) (fun h43 => ?_)
          refine sf_lconst (by decide : (0 : Int64).toInt = 0) (fun z44 ez44 => ?_)
          refine sf_lreturn rfl rfl ?_
          exact hR _ _ Iw40 sw40 (by rw [uw40]; first | (refine Or.inl ⟨by omega, ?_⟩; omega) | (refine Or.inr (Or.inl ⟨by omega, ?_⟩); omega) | (refine Or.inr (Or.inr ⟨by omega, ?_⟩); omega)) (by rw [uw40]; rw [c41]; exact Or.inl ⟨by omega, rfl⟩)
        · refine sf_iconst sf_c1 (fun z45 ez45 => ?_)
          refine sf_zreturn (by omega) rfl rfl ?_
          refine sf_f1_eq (fun h46 => absurd h46 (by omega)) (fun h46 => ?_)
          refine sf_aload rfl ?_
          refine sf_iload rfl ?_
          refine sf_iconst sf_c0 (fun z47 ez47 => ?_)
          refine sf_call3 rfl rfl rfl ?_
          refine sf_rv hI0 rfl ?_
          refine sc_M_left hI0 (by omega) (by omega) (by exact p0) (fun v48 lv48 uv48 q49_0 => ?_)
          have gS := q49_0
          rw [show z47.toInt = 0 by omega] at gS
          refine sf_iload rfl ?_
          refine sf_f2_ge (fun h50 => ?_) (fun h50 => ?_)
          · refine sf_iconst sf_c0 (fun z51 ez51 => ?_)
            refine sf_puti hI0 hs0 rfl rfl (sf_bd _) rfl rfl rfl (fun w52 Iw52 sw52 kw52 uw52 => ?_)
            have c53 := sf_ma kw52 (p := 123) rfl
            clear kw52
            refine sf_aload rfl ?_
            refine sf_geti Iw52 rfl rfl (fun v54 lv54 uv54 ev54 => ?_)
            rw [uw52] at ev54
            refine sf_f1_le (fun h55 => ?_) (fun h55 => absurd h55 (by omega))
            refine sf_aload rfl ?_
            refine sf_iload rfl ?_
            refine sf_iload rfl ?_
            refine sf_iconst sf_c0 (fun z56 ez56 => ?_)
            refine sf_call4 rfl rfl rfl ?_
            refine sf_rv Iw52 rfl ?_
            refine sc_M_take Iw52 (by omega) (by omega) (by omega) (by omega) (by rw [sf_ma sw52 (p := 122) rfl]; rw [c53]; exact p0) (fun v57 w58 Iw58 tw58 q59_0 => ?_)
            rw [sf_ma sw52 (p := 121) rfl] at q59_0
            rw [sf_ma sw52 (p := 122) rfl] at q59_0
            rw [c53] at q59_0
            rw [sf_ma sw52 (p := 125) rfl] at q59_0
            rw [sf_mf sw52 (p := 71) (j := 56) rfl] at q59_0
            have s60 := sf_mt sw52 tw58 rfl
            have c61 := sf_mf tw58 (p := 71) (j := 0) rfl
            have gT := q59_0
            rw [show z56.toInt = 0 by omega] at gT
            refine sf_lstore (L' := [(0, .inl (.ref 71)), (1, .inl (.int a_good)), (2, .inl (.int a_units))]) rfl ?_
            refine sf_aload rfl ?_
            refine sf_aload rfl ?_
            refine sf_getl Iw58 rfl rfl (fun v62 => ?_)
            refine sf_lload rfl ?_
            refine sf_l2 (fun v63 => ?_)
            refine sf_putl Iw58 s60 rfl rfl rfl rfl rfl (fun w64 Iw64 sw64 kw64 uw64 => ?_)
            have c65 := sf_mf kw64 (p := 71) (j := 0) rfl
            have c66 := sf_ma kw64 (p := 123) rfl
            clear kw64 uw64
            refine sf_lload rfl ?_
            refine sf_lreturn rfl rfl ?_
            exact hR _ _ Iw64 sw64 (by rw [c65, c61, uw52]; first | (refine Or.inl ⟨by omega, ?_⟩; omega) | (refine Or.inr (Or.inl ⟨by omega, ?_⟩); omega) | (refine Or.inr (Or.inr ⟨by omega, ?_⟩); omega)) (by rw [c65, c61, uw52]; rw [c66]; exact Or.inr ⟨by omega, gT⟩)
          · refine sf_iconst sf_c2 (fun z67 ez67 => ?_)
            refine sf_puti hI0 hs0 rfl rfl (sf_bd _) rfl rfl rfl (fun w68 Iw68 sw68 kw68 uw68 => ?_)
            have c69 := sf_ma kw68 (p := 123) rfl
            clear kw68
            refine sf_aload rfl ?_
            refine sf_geti Iw68 rfl rfl (fun v70 lv70 uv70 ev70 => ?_)
            rw [uw68] at ev70
            refine sf_f1_le (fun h71 => absurd h71 (by omega)) (fun h71 => ?_)
            refine sf_lconst (by decide : (0 : Int64).toInt = 0) (fun z72 ez72 => ?_)
            refine sf_lreturn rfl rfl ?_
            exact hR _ _ Iw68 sw68 (by rw [uw68]; first | (refine Or.inl ⟨by omega, ?_⟩; omega) | (refine Or.inr (Or.inl ⟨by omega, ?_⟩); omega) | (refine Or.inr (Or.inr ⟨by omega, ?_⟩); omega)) (by rw [uw68]; rw [c69]; exact Or.inl ⟨by omega, rfl⟩)
def sm_M_work : List Nat := [71, 121, 122, 123, 124, 125, 126, 128, 129, 8100, 8156]
set_option maxRecDepth 100000 in
set_option maxHeartbeats 4000000 in
theorem sc_M_work {w0 : wq_W} (hI0 : sf_I w0) {rt : Option wq_V → wq_W → Prop} {xt : Nat → wq_W → Prop} {a_good : Int32} {a_units : Int32} {a_other : Int32} {a_many : Int32} (p0 : sl_B (sf_a w0 122) (sf_a w0 123)) (hR : ∀ (r : Int32) (w : wq_W), sf_I w → sf_m sm_M_work w0 w → 0 ≤ r.toInt → r.toInt ≤ 40 → ((((sf_f w 71 0).toInt = 0 ∧ (0 ≤ a_good.toInt ∧ a_good.toInt ≤ 15 ∧ 0 ≤ a_other.toInt ∧ a_other.toInt ≤ 15 ∧ a_good.toInt ≠ a_other.toInt ∧ 1 ≤ a_many.toInt ∧ a_many.toInt ≤ a_units.toInt ∧ a_units.toInt ≤ 1000) ∧ (a_units.toInt ≤ (sl_S (sl_mt (sf_a w0 121) (sf_a w0 125) a_good.toInt 1) (sl_v (sf_a w0 122) (sf_a w0 123)) (sf_f w0 71 56).toInt.toNat)) ∧ ((sf_f w0 71 56).toInt < 40) ∧ r.toInt = (sf_f w0 71 56).toInt) ∨ ((sf_f w 71 0).toInt = 1 ∧ ¬ (0 ≤ a_good.toInt ∧ a_good.toInt ≤ 15 ∧ 0 ≤ a_other.toInt ∧ a_other.toInt ≤ 15 ∧ a_good.toInt ≠ a_other.toInt ∧ 1 ≤ a_many.toInt ∧ a_many.toInt ≤ a_units.toInt ∧ a_units.toInt ≤ 1000)) ∨ ((sf_f w 71 0).toInt = 2 ∧ (0 ≤ a_good.toInt ∧ a_good.toInt ≤ 15 ∧ 0 ≤ a_other.toInt ∧ a_other.toInt ≤ 15 ∧ a_good.toInt ≠ a_other.toInt ∧ 1 ≤ a_many.toInt ∧ a_many.toInt ≤ a_units.toInt ∧ a_units.toInt ≤ 1000) ∧ ¬ (a_units.toInt ≤ (sl_S (sl_mt (sf_a w0 121) (sf_a w0 125) a_good.toInt 1) (sl_v (sf_a w0 122) (sf_a w0 123)) (sf_f w0 71 56).toInt.toNat))) ∨ ((sf_f w 71 0).toInt = 3 ∧ (0 ≤ a_good.toInt ∧ a_good.toInt ≤ 15 ∧ 0 ≤ a_other.toInt ∧ a_other.toInt ≤ 15 ∧ a_good.toInt ≠ a_other.toInt ∧ 1 ≤ a_many.toInt ∧ a_many.toInt ≤ a_units.toInt ∧ a_units.toInt ≤ 1000) ∧ (a_units.toInt ≤ (sl_S (sl_mt (sf_a w0 121) (sf_a w0 125) a_good.toInt 1) (sl_v (sf_a w0 122) (sf_a w0 123)) (sf_f w0 71 56).toInt.toNat)) ∧ ¬ ((sf_f w0 71 56).toInt < 40)))) → ((((sf_f w 71 0).toInt ≠ 0 ∧ sf_a w 123 = sf_a w0 123) ∨ ((sf_f w 71 0).toInt = 0 ∧ sl_T (sf_a w0 123) (sf_a w 123) (sl_mt (sf_a w0 121) (sf_a w0 125) a_good.toInt 1) (sl_v (sf_a w0 122) (sf_a w0 123)) a_units.toInt (sf_f w0 71 56).toInt.toNat))) → ((((sf_f w 71 0).toInt ≠ 0 ∧ sf_a w 128 = sf_a w0 128) ∨ ((sf_f w 71 0).toInt = 0 ∧ sf_a w 128 = upd (sf_a w0 128) a_good.toInt.toNat (sf_a w0 128 a_good.toInt.toNat + a_units)))) → ((((sf_f w 71 0).toInt ≠ 0 ∧ sf_a w 129 = sf_a w0 129) ∨ ((sf_f w 71 0).toInt = 0 ∧ sf_a w 129 = upd (sf_a w0 129) a_good.toInt.toNat (sf_a w0 129 a_good.toInt.toNat + (a_units - a_many))))) → (sl_AF (sf_f w 71 0).toInt (sf_f w0 71 56) (sf_f w 71 56) (sf_a w0 121) (sf_a w 121) (sf_a w0 122) (sf_a w 122) (sf_a w0 125) (sf_a w 125) (sf_a w0 126) (sf_a w 126) a_other.toInt a_many.toInt) → rt (some (.inl (.int r))) w) : ks_M_work [.inl (.ref 71), .inl (.int a_good), .inl (.int a_units), .inl (.int a_other), .inl (.int a_many)] w0 rt xt := by
  have hs0 : sf_m sm_M_work w0 w0 := sf_m0
  refine sf_sp (L := [(0, .inl (.ref 71)), (1, .inl (.int a_good)), (2, .inl (.int a_units)), (3, .inl (.int a_other)), (4, .inl (.int a_many))]) rfl rfl ?_
  refine sf_iload rfl ?_
  refine sf_iconst sf_c0 (fun z1 ez1 => ?_)
  refine sf_iconst sf_c15 (fun z2 ez2 => ?_)
  refine sf_call3 rfl rfl rfl ?_
  refine sf_sp (L := [(0, .inl (.int a_good)), (1, .inl (.int z1)), (2, .inl (.int z2))]) rfl rfl ?_
  refine sf_iload rfl ?_
  refine sf_iload rfl ?_
  refine sf_f2_lt (fun h3 => ?_) (fun h3 => ?_)
  · refine sf_iconst sf_c0 (fun z4 ez4 => ?_)
    refine sf_zreturn (by omega) rfl rfl ?_
    refine sf_f1_eq (fun h5 => ?_) (fun h5 => absurd h5 (by omega))
    refine sf_iconst sf_c0 (fun z6 ez6 => ?_)
    refine sf_istore (L' := [(0, .inl (.ref 71)), (1, .inl (.int a_good)), (2, .inl (.int a_units)), (3, .inl (.int a_other)), (4, .inl (.int a_many))]) rfl ?_
    refine sf_aload rfl ?_
    refine sf_iload rfl ?_
    refine sf_f1_eq (fun h7 => ?_) (fun h7 => absurd h7 (by omega))
    refine sf_iconst sf_c1 (fun z8 ez8 => ?_)
    refine sf_puti hI0 hs0 rfl rfl (sf_bd _) rfl rfl rfl (fun w9 Iw9 sw9 kw9 uw9 => ?_)
    have c10 := sf_mf kw9 (p := 71) (j := 56) rfl
    have c11 := sf_ma kw9 (p := 123) rfl
    have c12 := sf_ma kw9 (p := 128) rfl
    have c13 := sf_ma kw9 (p := 129) rfl
    have c14 := sf_ma kw9 (p := 121) rfl
    have c15 := sf_ma kw9 (p := 122) rfl
    have c16 := sf_ma kw9 (p := 125) rfl
    have c17 := sf_ma kw9 (p := 126) rfl
    clear kw9
    refine sf_aload rfl ?_
    refine sf_geti Iw9 rfl rfl (fun v18 lv18 uv18 ev18 => ?_)
    rw [uw9] at ev18
    refine sf_f1_le (fun h19 => absurd h19 (by omega)) (fun h19 => ?_)
    refine sf_iconst sf_c0 (fun z20 ez20 => ?_)
    refine sf_ireturn rfl rfl ?_
    exact hR _ _ Iw9 sw9 (by omega) (by omega) (by rw [uw9]; refine Or.inr (Or.inl ⟨by omega, ?_⟩); omega) (by rw [uw9]; rw [c11]; exact Or.inl ⟨by omega, rfl⟩) (by rw [uw9]; rw [c12]; exact Or.inl ⟨by omega, rfl⟩) (by rw [uw9]; rw [c13]; exact Or.inl ⟨by omega, rfl⟩) (by rw [uw9]; rw [c10]; rw [c14]; rw [c15]; rw [c16]; rw [c17]; exact Or.inl ⟨by omega, rfl, rfl, rfl, rfl, rfl⟩)
  · refine sf_iload rfl ?_
    refine sf_iload rfl ?_
    refine sf_f2_gt (fun h21 => ?_) (fun h21 => ?_)
    · refine sf_iconst sf_c0 (fun z22 ez22 => ?_)
      refine sf_zreturn (by omega) rfl rfl ?_
      refine sf_f1_eq (fun h23 => ?_) (fun h23 => absurd h23 (by omega))
      refine sf_iconst sf_c0 (fun z24 ez24 => ?_)
      refine sf_istore (L' := [(0, .inl (.ref 71)), (1, .inl (.int a_good)), (2, .inl (.int a_units)), (3, .inl (.int a_other)), (4, .inl (.int a_many))]) rfl ?_
      refine sf_aload rfl ?_
      refine sf_iload rfl ?_
      refine sf_f1_eq (fun h25 => ?_) (fun h25 => absurd h25 (by omega))
      refine sf_iconst sf_c1 (fun z26 ez26 => ?_)
      refine sf_puti hI0 hs0 rfl rfl (sf_bd _) rfl rfl rfl (fun w27 Iw27 sw27 kw27 uw27 => ?_)
      have c28 := sf_mf kw27 (p := 71) (j := 56) rfl
      have c29 := sf_ma kw27 (p := 123) rfl
      have c30 := sf_ma kw27 (p := 128) rfl
      have c31 := sf_ma kw27 (p := 129) rfl
      have c32 := sf_ma kw27 (p := 121) rfl
      have c33 := sf_ma kw27 (p := 122) rfl
      have c34 := sf_ma kw27 (p := 125) rfl
      have c35 := sf_ma kw27 (p := 126) rfl
      clear kw27
      refine sf_aload rfl ?_
      refine sf_geti Iw27 rfl rfl (fun v36 lv36 uv36 ev36 => ?_)
      rw [uw27] at ev36
      refine sf_f1_le (fun h37 => absurd h37 (by omega)) (fun h37 => ?_)
      refine sf_iconst sf_c0 (fun z38 ez38 => ?_)
      refine sf_ireturn rfl rfl ?_
      exact hR _ _ Iw27 sw27 (by omega) (by omega) (by rw [uw27]; refine Or.inr (Or.inl ⟨by omega, ?_⟩); omega) (by rw [uw27]; rw [c29]; exact Or.inl ⟨by omega, rfl⟩) (by rw [uw27]; rw [c30]; exact Or.inl ⟨by omega, rfl⟩) (by rw [uw27]; rw [c31]; exact Or.inl ⟨by omega, rfl⟩) (by rw [uw27]; rw [c28]; rw [c32]; rw [c33]; rw [c34]; rw [c35]; exact Or.inl ⟨by omega, rfl, rfl, rfl, rfl, rfl⟩)
    · refine sf_iconst sf_c1 (fun z39 ez39 => ?_)
      refine sf_zreturn (by omega) rfl rfl ?_
      refine sf_f1_eq (fun h40 => absurd h40 (by omega)) (fun h40 => ?_)
      refine sf_iload rfl ?_
      refine sf_iconst sf_c0 (fun z41 ez41 => ?_)
      refine sf_iconst sf_c15 (fun z42 ez42 => ?_)
      refine sf_call3 rfl rfl rfl ?_
      refine sf_sp (L := [(0, .inl (.int a_other)), (1, .inl (.int z41)), (2, .inl (.int z42))]) rfl rfl ?_
      refine sf_iload rfl ?_
      refine sf_iload rfl ?_
      refine sf_f2_lt (fun h43 => ?_) (fun h43 => ?_)
      · refine sf_iconst sf_c0 (fun z44 ez44 => ?_)
        refine sf_zreturn (by omega) rfl rfl ?_
        refine sf_f1_eq (fun h45 => ?_) (fun h45 => absurd h45 (by omega))
        refine sf_iconst sf_c0 (fun z46 ez46 => ?_)
        refine sf_istore (L' := [(0, .inl (.ref 71)), (1, .inl (.int a_good)), (2, .inl (.int a_units)), (3, .inl (.int a_other)), (4, .inl (.int a_many))]) rfl ?_
        refine sf_aload rfl ?_
        refine sf_iload rfl ?_
        refine sf_f1_eq (fun h47 => ?_) (fun h47 => absurd h47 (by omega))
        refine sf_iconst sf_c1 (fun z48 ez48 => ?_)
        refine sf_puti hI0 hs0 rfl rfl (sf_bd _) rfl rfl rfl (fun w49 Iw49 sw49 kw49 uw49 => ?_)
        have c50 := sf_mf kw49 (p := 71) (j := 56) rfl
        have c51 := sf_ma kw49 (p := 123) rfl
        have c52 := sf_ma kw49 (p := 128) rfl
        have c53 := sf_ma kw49 (p := 129) rfl
        have c54 := sf_ma kw49 (p := 121) rfl
        have c55 := sf_ma kw49 (p := 122) rfl
        have c56 := sf_ma kw49 (p := 125) rfl
        have c57 := sf_ma kw49 (p := 126) rfl
        clear kw49
        refine sf_aload rfl ?_
        refine sf_geti Iw49 rfl rfl (fun v58 lv58 uv58 ev58 => ?_)
        rw [uw49] at ev58
        refine sf_f1_le (fun h59 => absurd h59 (by omega)) (fun h59 => ?_)
        refine sf_iconst sf_c0 (fun z60 ez60 => ?_)
        refine sf_ireturn rfl rfl ?_
        exact hR _ _ Iw49 sw49 (by omega) (by omega) (by rw [uw49]; refine Or.inr (Or.inl ⟨by omega, ?_⟩); omega) (by rw [uw49]; rw [c51]; exact Or.inl ⟨by omega, rfl⟩) (by rw [uw49]; rw [c52]; exact Or.inl ⟨by omega, rfl⟩) (by rw [uw49]; rw [c53]; exact Or.inl ⟨by omega, rfl⟩) (by rw [uw49]; rw [c50]; rw [c54]; rw [c55]; rw [c56]; rw [c57]; exact Or.inl ⟨by omega, rfl, rfl, rfl, rfl, rfl⟩)
      · refine sf_iload rfl ?_
        refine sf_iload rfl ?_
        refine sf_f2_gt (fun h61 => ?_) (fun h61 => ?_)
        · refine sf_iconst sf_c0 (fun z62 ez62 => ?_)
          refine sf_zreturn (by omega) rfl rfl ?_
          refine sf_f1_eq (fun h63 => ?_) (fun h63 => absurd h63 (by omega))
          refine sf_iconst sf_c0 (fun z64 ez64 => ?_)
          refine sf_istore (L' := [(0, .inl (.ref 71)), (1, .inl (.int a_good)), (2, .inl (.int a_units)), (3, .inl (.int a_other)), (4, .inl (.int a_many))]) rfl ?_
          refine sf_aload rfl ?_
          refine sf_iload rfl ?_
          refine sf_f1_eq (fun h65 => ?_) (fun h65 => absurd h65 (by omega))
          refine sf_iconst sf_c1 (fun z66 ez66 => ?_)
          refine sf_puti hI0 hs0 rfl rfl (sf_bd _) rfl rfl rfl (fun w67 Iw67 sw67 kw67 uw67 => ?_)
          have c68 := sf_mf kw67 (p := 71) (j := 56) rfl
          have c69 := sf_ma kw67 (p := 123) rfl
          have c70 := sf_ma kw67 (p := 128) rfl
          have c71 := sf_ma kw67 (p := 129) rfl
          have c72 := sf_ma kw67 (p := 121) rfl
          have c73 := sf_ma kw67 (p := 122) rfl
          have c74 := sf_ma kw67 (p := 125) rfl
          have c75 := sf_ma kw67 (p := 126) rfl
          clear kw67
          refine sf_aload rfl ?_
          refine sf_geti Iw67 rfl rfl (fun v76 lv76 uv76 ev76 => ?_)
          rw [uw67] at ev76
          refine sf_f1_le (fun h77 => absurd h77 (by omega)) (fun h77 => ?_)
          refine sf_iconst sf_c0 (fun z78 ez78 => ?_)
          refine sf_ireturn rfl rfl ?_
          exact hR _ _ Iw67 sw67 (by omega) (by omega) (by rw [uw67]; refine Or.inr (Or.inl ⟨by omega, ?_⟩); omega) (by rw [uw67]; rw [c69]; exact Or.inl ⟨by omega, rfl⟩) (by rw [uw67]; rw [c70]; exact Or.inl ⟨by omega, rfl⟩) (by rw [uw67]; rw [c71]; exact Or.inl ⟨by omega, rfl⟩) (by rw [uw67]; rw [c68]; rw [c72]; rw [c73]; rw [c74]; rw [c75]; exact Or.inl ⟨by omega, rfl, rfl, rfl, rfl, rfl⟩)
        · refine sf_iconst sf_c1 (fun z79 ez79 => ?_)
          refine sf_zreturn (by omega) rfl rfl ?_
          refine sf_f1_eq (fun h80 => absurd h80 (by omega)) (fun h80 => ?_)
          refine sf_iload rfl ?_
          refine sf_iload rfl ?_
          refine sf_f2_eq (fun h81 => ?_) (fun h81 => ?_)
          · refine sf_iconst sf_c0 (fun z82 ez82 => ?_)
            refine sf_istore (L' := [(0, .inl (.ref 71)), (1, .inl (.int a_good)), (2, .inl (.int a_units)), (3, .inl (.int a_other)), (4, .inl (.int a_many))]) rfl ?_
            refine sf_aload rfl ?_
            refine sf_iload rfl ?_
            refine sf_f1_eq (fun h83 => ?_) (fun h83 => absurd h83 (by omega))
            refine sf_iconst sf_c1 (fun z84 ez84 => ?_)
            refine sf_puti hI0 hs0 rfl rfl (sf_bd _) rfl rfl rfl (fun w85 Iw85 sw85 kw85 uw85 => ?_)
            have c86 := sf_mf kw85 (p := 71) (j := 56) rfl
            have c87 := sf_ma kw85 (p := 123) rfl
            have c88 := sf_ma kw85 (p := 128) rfl
            have c89 := sf_ma kw85 (p := 129) rfl
            have c90 := sf_ma kw85 (p := 121) rfl
            have c91 := sf_ma kw85 (p := 122) rfl
            have c92 := sf_ma kw85 (p := 125) rfl
            have c93 := sf_ma kw85 (p := 126) rfl
            clear kw85
            refine sf_aload rfl ?_
            refine sf_geti Iw85 rfl rfl (fun v94 lv94 uv94 ev94 => ?_)
            rw [uw85] at ev94
            refine sf_f1_le (fun h95 => absurd h95 (by omega)) (fun h95 => ?_)
            refine sf_iconst sf_c0 (fun z96 ez96 => ?_)
            refine sf_ireturn rfl rfl ?_
            exact hR _ _ Iw85 sw85 (by omega) (by omega) (by rw [uw85]; refine Or.inr (Or.inl ⟨by omega, ?_⟩); omega) (by rw [uw85]; rw [c87]; exact Or.inl ⟨by omega, rfl⟩) (by rw [uw85]; rw [c88]; exact Or.inl ⟨by omega, rfl⟩) (by rw [uw85]; rw [c89]; exact Or.inl ⟨by omega, rfl⟩) (by rw [uw85]; rw [c86]; rw [c90]; rw [c91]; rw [c92]; rw [c93]; exact Or.inl ⟨by omega, rfl, rfl, rfl, rfl, rfl⟩)
          · refine sf_iload rfl ?_
            refine sf_iconst sf_c1 (fun z97 ez97 => ?_)
            refine sf_f2_lt (fun h98 => ?_) (fun h98 => ?_)
            · refine sf_iconst sf_c0 (fun z99 ez99 => ?_)
              refine sf_istore (L' := [(0, .inl (.ref 71)), (1, .inl (.int a_good)), (2, .inl (.int a_units)), (3, .inl (.int a_other)), (4, .inl (.int a_many))]) rfl ?_
              refine sf_aload rfl ?_
              refine sf_iload rfl ?_
              refine sf_f1_eq (fun h100 => ?_) (fun h100 => absurd h100 (by omega))
              refine sf_iconst sf_c1 (fun z101 ez101 => ?_)
              refine sf_puti hI0 hs0 rfl rfl (sf_bd _) rfl rfl rfl (fun w102 Iw102 sw102 kw102 uw102 => ?_)
              have c103 := sf_mf kw102 (p := 71) (j := 56) rfl
              have c104 := sf_ma kw102 (p := 123) rfl
              have c105 := sf_ma kw102 (p := 128) rfl
              have c106 := sf_ma kw102 (p := 129) rfl
              have c107 := sf_ma kw102 (p := 121) rfl
              have c108 := sf_ma kw102 (p := 122) rfl
              have c109 := sf_ma kw102 (p := 125) rfl
              have c110 := sf_ma kw102 (p := 126) rfl
              clear kw102
              refine sf_aload rfl ?_
              refine sf_geti Iw102 rfl rfl (fun v111 lv111 uv111 ev111 => ?_)
              rw [uw102] at ev111
              refine sf_f1_le (fun h112 => absurd h112 (by omega)) (fun h112 => ?_)
              refine sf_iconst sf_c0 (fun z113 ez113 => ?_)
              refine sf_ireturn rfl rfl ?_
              exact hR _ _ Iw102 sw102 (by omega) (by omega) (by rw [uw102]; refine Or.inr (Or.inl ⟨by omega, ?_⟩); omega) (by rw [uw102]; rw [c104]; exact Or.inl ⟨by omega, rfl⟩) (by rw [uw102]; rw [c105]; exact Or.inl ⟨by omega, rfl⟩) (by rw [uw102]; rw [c106]; exact Or.inl ⟨by omega, rfl⟩) (by rw [uw102]; rw [c103]; rw [c107]; rw [c108]; rw [c109]; rw [c110]; exact Or.inl ⟨by omega, rfl, rfl, rfl, rfl, rfl⟩)
            · refine sf_iload rfl ?_
              refine sf_iload rfl ?_
              refine sf_f2_gt (fun h114 => ?_) (fun h114 => ?_)
              · refine sf_iconst sf_c0 (fun z115 ez115 => ?_)
                refine sf_istore (L' := [(0, .inl (.ref 71)), (1, .inl (.int a_good)), (2, .inl (.int a_units)), (3, .inl (.int a_other)), (4, .inl (.int a_many))]) rfl ?_
                refine sf_aload rfl ?_
                refine sf_iload rfl ?_
                refine sf_f1_eq (fun h116 => ?_) (fun h116 => absurd h116 (by omega))
                refine sf_iconst sf_c1 (fun z117 ez117 => ?_)
                refine sf_puti hI0 hs0 rfl rfl (sf_bd _) rfl rfl rfl (fun w118 Iw118 sw118 kw118 uw118 => ?_)
                have c119 := sf_mf kw118 (p := 71) (j := 56) rfl
                have c120 := sf_ma kw118 (p := 123) rfl
                have c121 := sf_ma kw118 (p := 128) rfl
                have c122 := sf_ma kw118 (p := 129) rfl
                have c123 := sf_ma kw118 (p := 121) rfl
                have c124 := sf_ma kw118 (p := 122) rfl
                have c125 := sf_ma kw118 (p := 125) rfl
                have c126 := sf_ma kw118 (p := 126) rfl
                clear kw118
                refine sf_aload rfl ?_
                refine sf_geti Iw118 rfl rfl (fun v127 lv127 uv127 ev127 => ?_)
                rw [uw118] at ev127
                refine sf_f1_le (fun h128 => absurd h128 (by omega)) (fun h128 => ?_)
                refine sf_iconst sf_c0 (fun z129 ez129 => ?_)
                refine sf_ireturn rfl rfl ?_
                exact hR _ _ Iw118 sw118 (by omega) (by omega) (by rw [uw118]; refine Or.inr (Or.inl ⟨by omega, ?_⟩); omega) (by rw [uw118]; rw [c120]; exact Or.inl ⟨by omega, rfl⟩) (by rw [uw118]; rw [c121]; exact Or.inl ⟨by omega, rfl⟩) (by rw [uw118]; rw [c122]; exact Or.inl ⟨by omega, rfl⟩) (by rw [uw118]; rw [c119]; rw [c123]; rw [c124]; rw [c125]; rw [c126]; exact Or.inl ⟨by omega, rfl, rfl, rfl, rfl, rfl⟩)
              · refine sf_iload rfl ?_
                refine sf_iconst sf_c1000 (fun z130 ez130 => ?_)
                refine sf_f2_gt (fun h131 => ?_) (fun h131 => ?_)
                · refine sf_iconst sf_c0 (fun z132 ez132 => ?_)
                  refine sf_istore (L' := [(0, .inl (.ref 71)), (1, .inl (.int a_good)), (2, .inl (.int a_units)), (3, .inl (.int a_other)), (4, .inl (.int a_many))]) rfl ?_
                  refine sf_aload rfl ?_
                  refine sf_iload rfl ?_
                  refine sf_f1_eq (fun h133 => ?_) (fun h133 => absurd h133 (by omega))
                  refine sf_iconst sf_c1 (fun z134 ez134 => ?_)
                  refine sf_puti hI0 hs0 rfl rfl (sf_bd _) rfl rfl rfl (fun w135 Iw135 sw135 kw135 uw135 => ?_)
                  have c136 := sf_mf kw135 (p := 71) (j := 56) rfl
                  have c137 := sf_ma kw135 (p := 123) rfl
                  have c138 := sf_ma kw135 (p := 128) rfl
                  have c139 := sf_ma kw135 (p := 129) rfl
                  have c140 := sf_ma kw135 (p := 121) rfl
                  have c141 := sf_ma kw135 (p := 122) rfl
                  have c142 := sf_ma kw135 (p := 125) rfl
                  have c143 := sf_ma kw135 (p := 126) rfl
                  clear kw135
                  refine sf_aload rfl ?_
                  refine sf_geti Iw135 rfl rfl (fun v144 lv144 uv144 ev144 => ?_)
                  rw [uw135] at ev144
                  refine sf_f1_le (fun h145 => absurd h145 (by omega)) (fun h145 => ?_)
                  refine sf_iconst sf_c0 (fun z146 ez146 => ?_)
                  refine sf_ireturn rfl rfl ?_
                  exact hR _ _ Iw135 sw135 (by omega) (by omega) (by rw [uw135]; refine Or.inr (Or.inl ⟨by omega, ?_⟩); omega) (by rw [uw135]; rw [c137]; exact Or.inl ⟨by omega, rfl⟩) (by rw [uw135]; rw [c138]; exact Or.inl ⟨by omega, rfl⟩) (by rw [uw135]; rw [c139]; exact Or.inl ⟨by omega, rfl⟩) (by rw [uw135]; rw [c136]; rw [c140]; rw [c141]; rw [c142]; rw [c143]; exact Or.inl ⟨by omega, rfl, rfl, rfl, rfl, rfl⟩)
                · refine sf_iconst sf_c1 (fun z147 ez147 => ?_)
                  refine sf_istore (L' := [(0, .inl (.ref 71)), (1, .inl (.int a_good)), (2, .inl (.int a_units)), (3, .inl (.int a_other)), (4, .inl (.int a_many))]) rfl ?_
                  refine sf_aload rfl ?_
                  refine sf_iload rfl ?_
                  refine sf_f1_eq (fun h148 => absurd h148 (by omega)) (fun h148 => ?_)
                  refine sf_aload rfl ?_
                  refine sf_iload rfl ?_
                  refine sf_iconst sf_c1 (fun z149 ez149 => ?_)
                  refine sf_call3 rfl rfl rfl ?_
                  refine sf_rv hI0 rfl ?_
                  refine sc_M_left hI0 (by omega) (by omega) (by exact p0) (fun v150 lv150 uv150 q151_0 => ?_)
                  have gS := q151_0
                  rw [show z149.toInt = 1 by omega] at gS
                  refine sf_iload rfl ?_
                  refine sf_f2_ge (fun h152 => ?_) (fun h152 => ?_)
                  · refine sf_aload rfl ?_
                    refine sf_geti hI0 rfl rfl (fun v153 lv153 uv153 ev153 => ?_)
                    refine sf_iconst sf_c40 (fun z154 ez154 => ?_)
                    refine sf_f2_eq (fun h155 => ?_) (fun h155 => ?_)
                    · refine sf_iconst sf_c3 (fun z156 ez156 => ?_)
                      refine sf_puti hI0 hs0 rfl rfl (sf_bd _) rfl rfl rfl (fun w157 Iw157 sw157 kw157 uw157 => ?_)
                      have c158 := sf_mf kw157 (p := 71) (j := 56) rfl
                      have c159 := sf_ma kw157 (p := 123) rfl
                      have c160 := sf_ma kw157 (p := 128) rfl
                      have c161 := sf_ma kw157 (p := 129) rfl
                      have c162 := sf_ma kw157 (p := 121) rfl
                      have c163 := sf_ma kw157 (p := 122) rfl
                      have c164 := sf_ma kw157 (p := 125) rfl
                      have c165 := sf_ma kw157 (p := 126) rfl
                      clear kw157
                      refine sf_aload rfl ?_
                      refine sf_geti Iw157 rfl rfl (fun v166 lv166 uv166 ev166 => ?_)
                      rw [uw157] at ev166
                      refine sf_f1_le (fun h167 => absurd h167 (by omega)) (fun h167 => ?_)
                      refine sf_iconst sf_c0 (fun z168 ez168 => ?_)
                      refine sf_ireturn rfl rfl ?_
                      exact hR _ _ Iw157 sw157 (by omega) (by omega) (by rw [uw157]; refine Or.inr (Or.inr (Or.inr ⟨by omega, ?_⟩)); omega) (by rw [uw157]; rw [c159]; exact Or.inl ⟨by omega, rfl⟩) (by rw [uw157]; rw [c160]; exact Or.inl ⟨by omega, rfl⟩) (by rw [uw157]; rw [c161]; exact Or.inl ⟨by omega, rfl⟩) (by rw [uw157]; rw [c158]; rw [c162]; rw [c163]; rw [c164]; rw [c165]; exact Or.inl ⟨by omega, rfl, rfl, rfl, rfl, rfl⟩)
                    · refine sf_iconst sf_c0 (fun z169 ez169 => ?_)
                      refine sf_puti hI0 hs0 rfl rfl (sf_bd _) rfl rfl rfl (fun w170 Iw170 sw170 kw170 uw170 => ?_)
                      have c171 := sf_mf kw170 (p := 71) (j := 56) rfl
                      have c172 := sf_ma kw170 (p := 123) rfl
                      have c173 := sf_ma kw170 (p := 128) rfl
                      have c174 := sf_ma kw170 (p := 129) rfl
                      have c175 := sf_ma kw170 (p := 121) rfl
                      have c176 := sf_ma kw170 (p := 122) rfl
                      have c177 := sf_ma kw170 (p := 125) rfl
                      have c178 := sf_ma kw170 (p := 126) rfl
                      clear kw170
                      refine sf_aload rfl ?_
                      refine sf_geti Iw170 rfl rfl (fun v179 lv179 uv179 ev179 => ?_)
                      rw [uw170] at ev179
                      refine sf_f1_le (fun h180 => ?_) (fun h180 => absurd h180 (by omega))
                      refine sf_aload rfl ?_
                      refine sf_iload rfl ?_
                      refine sf_iload rfl ?_
                      refine sf_iconst sf_c1 (fun z181 ez181 => ?_)
                      refine sf_call4 rfl rfl rfl ?_
                      refine sf_rv Iw170 rfl ?_
                      refine sc_M_take Iw170 (by omega) (by omega) (by omega) (by omega) (by rw [c176]; rw [c172]; exact p0) (fun v182 w183 Iw183 tw183 q184_0 => ?_)
                      rw [c175] at q184_0
                      rw [c176] at q184_0
                      rw [c172] at q184_0
                      rw [c177] at q184_0
                      rw [c171] at q184_0
                      have s185 := sf_mt sw170 tw183 rfl
                      have c186 := sf_mf tw183 (p := 71) (j := 0) rfl
                      have c187 := sf_mf tw183 (p := 71) (j := 56) rfl
                      have c188 := sf_ma tw183 (p := 128) rfl
                      have c189 := sf_ma tw183 (p := 129) rfl
                      have c190 := sf_ma tw183 (p := 121) rfl
                      have c191 := sf_ma tw183 (p := 122) rfl
                      have c192 := sf_ma tw183 (p := 125) rfl
                      have c193 := sf_ma tw183 (p := 126) rfl
                      have gT := q184_0
                      rw [show z181.toInt = 1 by omega] at gT
                      refine sf_lstore (L' := [(5, .inl (.int z147)), (0, .inl (.ref 71)), (1, .inl (.int a_good)), (2, .inl (.int a_units)), (3, .inl (.int a_other)), (4, .inl (.int a_many))]) rfl ?_
                      refine sf_aload rfl ?_
                      refine sf_getr Iw183 rfl rfl ?_
                      refine sf_iload rfl ?_
                      refine sf_aload rfl ?_
                      refine sf_getr Iw183 rfl rfl ?_
                      refine sf_iload rfl ?_
                      refine sf_iald Iw183 rfl (by omega) (fun v194 lv194 uv194 ev194 => ?_)
                      clear lv194 uv194
                      rw [c188, c173] at ev194
                      refine sf_iload rfl ?_
                      refine sf_i2e (fun v195 ev195 => ?_)
                      refine sf_iast Iw183 s185 rfl (by omega) (sf_bd _) rfl rfl (fun w196 Iw196 sw196 kw196 uw196 => ?_)
                      have c197 := sf_mf kw196 (p := 71) (j := 0) rfl
                      have c198 := sf_mf kw196 (p := 71) (j := 56) rfl
                      have c199 := sf_ma kw196 (p := 123) rfl
                      have c200 := sf_ma kw196 (p := 129) rfl
                      have c201 := sf_ma kw196 (p := 121) rfl
                      have c202 := sf_ma kw196 (p := 122) rfl
                      have c203 := sf_ma kw196 (p := 125) rfl
                      have c204 := sf_ma kw196 (p := 126) rfl
                      clear kw196
                      have gW := uw196
                      rw [c188, c173] at gW
                      have gWv : v195 = sf_a w0 128 a_good.toInt.toNat + a_units := by rw [ev195, sb_eq ev194]
                      rw [gWv] at gW
                      refine sf_aload rfl ?_
                      refine sf_getr Iw196 rfl rfl ?_
                      refine sf_iload rfl ?_
                      refine sf_aload rfl ?_
                      refine sf_getr Iw196 rfl rfl ?_
                      refine sf_iload rfl ?_
                      refine sf_iald Iw196 rfl (by omega) (fun v205 lv205 uv205 ev205 => ?_)
                      clear lv205 uv205
                      rw [c200, c189, c174] at ev205
                      refine sf_iload rfl ?_
                      refine sf_i2e (fun v206 ev206 => ?_)
                      refine sf_iload rfl ?_
                      refine sf_i2e (fun v207 ev207 => ?_)
                      refine sf_iast Iw196 sw196 rfl (by omega) (sf_bd _) rfl rfl (fun w208 Iw208 sw208 kw208 uw208 => ?_)
                      have c209 := sf_mf kw208 (p := 71) (j := 0) rfl
                      have c210 := sf_mf kw208 (p := 71) (j := 56) rfl
                      have c211 := sf_ma kw208 (p := 123) rfl
                      have c212 := sf_ma kw208 (p := 128) rfl
                      have c213 := sf_ma kw208 (p := 121) rfl
                      have c214 := sf_ma kw208 (p := 122) rfl
                      have c215 := sf_ma kw208 (p := 125) rfl
                      have c216 := sf_ma kw208 (p := 126) rfl
                      clear kw208
                      have gL := uw208
                      rw [c200, c189, c174] at gL
                      have gLv : v207 = sf_a w0 129 a_good.toInt.toNat + (a_units - a_many) := by rw [ev207, ev206, sb_eq ev205, Int32.sub_eq_add_neg, Int32.sub_eq_add_neg, Int32.add_assoc]
                      rw [gLv] at gL
                      refine sf_aload rfl ?_
                      refine sf_iload rfl ?_
                      refine sf_iload rfl ?_
                      refine sf_lload rfl ?_
                      refine sf_iconst sf_c1 (fun z217 ez217 => ?_)
                      refine sf_iconst sf_c1 (fun z218 ez218 => ?_)
                      refine sf_call6 rfl rfl rfl ?_
                      refine sf_rv Iw208 rfl ?_
                      refine sc_M_addLot Iw208 (by omega) (by omega) (by omega) (by omega) (by rw [c210, c198, c187, c171]; omega) (fun v219 w220 Iw220 tw220 lv219 uv219 q221_0 q221_1 q221_2 q221_3 q221_4 q221_5 => ?_)
                      rw [c210, c198, c187, c171] at q221_0
                      rw [c210, c198, c187, c171] at q221_1
                      rw [c213, c201, c190, c175] at q221_2
                      rw [c210, c198, c187, c171] at q221_2
                      rw [c214, c202, c191, c176] at q221_3
                      rw [c210, c198, c187, c171] at q221_3
                      rw [c215, c203, c192, c177] at q221_4
                      rw [c210, c198, c187, c171] at q221_4
                      rw [c216, c204, c193, c178] at q221_5
                      rw [c210, c198, c187, c171] at q221_5
                      have s222 := sf_mt sw208 tw220 rfl
                      have c223 := sf_mf tw220 (p := 71) (j := 0) rfl
                      have c224 := sf_ma tw220 (p := 123) rfl
                      have c225 := sf_ma tw220 (p := 128) rfl
                      have c226 := sf_ma tw220 (p := 129) rfl
                      have gA0 := q221_2
                      have gA1 := q221_3
                      have gA2 := q221_4
                      have gA3 := q221_5
                      refine sf_ireturn rfl rfl ?_
                      exact hR _ _ Iw220 s222 (by omega) (by omega) (by rw [c223, c209, c197, c186, uw170]; refine Or.inl ⟨by omega, ?_⟩; omega) (by rw [c223, c209, c197, c186, uw170]; rw [c224, c211, c199]; exact Or.inr ⟨by omega, gT⟩) (by rw [c223, c209, c197, c186, uw170]; rw [c225, c212]; exact Or.inr ⟨by omega, gW⟩) (by rw [c223, c209, c197, c186, uw170]; rw [c226]; exact Or.inr ⟨by omega, gL⟩) (by rw [c223, c209, c197, c186, uw170]; exact Or.inr ⟨by omega, by omega, ⟨_, by omega, gA0⟩, ⟨_, by omega, gA1⟩, ⟨_, by omega, gA2⟩, ⟨_, by omega, gA3⟩⟩)
                  · refine sf_iconst sf_c2 (fun z227 ez227 => ?_)
                    refine sf_puti hI0 hs0 rfl rfl (sf_bd _) rfl rfl rfl (fun w228 Iw228 sw228 kw228 uw228 => ?_)
                    have c229 := sf_mf kw228 (p := 71) (j := 56) rfl
                    have c230 := sf_ma kw228 (p := 123) rfl
                    have c231 := sf_ma kw228 (p := 128) rfl
                    have c232 := sf_ma kw228 (p := 129) rfl
                    have c233 := sf_ma kw228 (p := 121) rfl
                    have c234 := sf_ma kw228 (p := 122) rfl
                    have c235 := sf_ma kw228 (p := 125) rfl
                    have c236 := sf_ma kw228 (p := 126) rfl
                    clear kw228
                    refine sf_aload rfl ?_
                    refine sf_geti Iw228 rfl rfl (fun v237 lv237 uv237 ev237 => ?_)
                    rw [uw228] at ev237
                    refine sf_f1_le (fun h238 => absurd h238 (by omega)) (fun h238 => ?_)
                    refine sf_iconst sf_c0 (fun z239 ez239 => ?_)
                    refine sf_ireturn rfl rfl ?_
                    exact hR _ _ Iw228 sw228 (by omega) (by omega) (by rw [uw228]; refine Or.inr (Or.inr (Or.inl ⟨by omega, ?_⟩)); omega) (by rw [uw228]; rw [c230]; exact Or.inl ⟨by omega, rfl⟩) (by rw [uw228]; rw [c231]; exact Or.inl ⟨by omega, rfl⟩) (by rw [uw228]; rw [c232]; exact Or.inl ⟨by omega, rfl⟩) (by rw [uw228]; rw [c229]; rw [c233]; rw [c234]; rw [c235]; rw [c236]; exact Or.inl ⟨by omega, rfl, rfl, rfl, rfl, rfl⟩)
