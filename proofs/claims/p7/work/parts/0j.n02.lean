def sm_M_rateFor : List Nat := [71, 8100]
set_option maxRecDepth 100000 in
set_option maxHeartbeats 4000000 in
theorem sc_M_rateFor {w0 : wq_W} (hI0 : sf_I w0) {rt : Option wq_V → wq_W → Prop} {xt : Nat → wq_W → Prop} {a_heading : Int32} {a_land : Int32} {a_when : Int32}  (hR : ∀ (r : Int32) (w : wq_W), sf_I w → sf_m sm_M_rateFor w0 w → (-1) ≤ r.toInt → r.toInt ≤ 39 → ((((sf_f w 71 0).toInt = 0 ∧ (0 ≤ a_heading.toInt ∧ a_heading.toInt < (sf_f w0 71 1).toInt ∧ 0 ≤ a_land.toInt ∧ a_land.toInt ≤ 7 ∧ 0 ≤ a_when.toInt ∧ a_when.toInt ≤ 9999) ∧ r.toInt = sr_up (sf_a w0 72) (sr_G (sf_a w0 79) (sf_a w0 80) (sf_a w0 84) (sf_a w0 85) a_land.toInt a_when.toInt (sf_f w0 71 10).toInt.toNat) (a_heading.toInt + 1).toNat a_heading.toInt) ∨ ((sf_f w 71 0).toInt = 1 ∧ ¬ (0 ≤ a_heading.toInt ∧ a_heading.toInt < (sf_f w0 71 1).toInt ∧ 0 ≤ a_land.toInt ∧ a_land.toInt ≤ 7 ∧ 0 ≤ a_when.toInt ∧ a_when.toInt ≤ 9999)))) → rt (some (.inl (.int r))) w) : ks_M_rateFor [.inl (.ref 71), .inl (.int a_heading), .inl (.int a_land), .inl (.int a_when)] w0 rt xt := by
  have hs0 : sf_m sm_M_rateFor w0 w0 := sf_m0
  refine sf_sp (L := [(0, .inl (.ref 71)), (1, .inl (.int a_heading)), (2, .inl (.int a_land)), (3, .inl (.int a_when))]) rfl rfl ?_
  refine sf_aload rfl ?_
  refine sf_aload rfl ?_
  refine sf_iload rfl ?_
  refine sf_call2 rfl rfl rfl ?_
  refine sf_rv hI0 rfl ?_
  refine sf_sp (L := [(0, .inl (.ref 71)), (1, .inl (.int a_heading))]) rfl rfl ?_
  refine sf_iload rfl ?_
  refine sf_f1_lt (fun h1 => ?_) (fun h1 => ?_)
  · refine sf_iconst sf_c0 (fun z2 ez2 => ?_)
    refine sf_zreturn (by omega) rfl rfl ?_
    refine sf_f1_eq (fun h3 => ?_) (fun h3 => absurd h3 (by omega))
    refine sf_iconst sf_c1 (fun z4 ez4 => ?_)
    refine sf_puti hI0 hs0 rfl rfl (sf_bd _) rfl rfl rfl (fun w5 Iw5 sw5 kw5 uw5 => ?_)
    clear kw5
    refine sf_aload rfl ?_
    refine sf_geti Iw5 rfl rfl (fun v6 lv6 uv6 ev6 => ?_)
    rw [uw5] at ev6
    refine sf_f1_le (fun h7 => absurd h7 (by omega)) (fun h7 => ?_)
    refine sf_iconst sf_c0 (fun z8 ez8 => ?_)
    refine sf_ireturn rfl rfl ?_
    exact hR _ _ Iw5 sw5 (by omega) (by omega) (by rw [uw5]; first | (refine Or.inl ⟨by omega, ?_⟩; omega) | (refine Or.inr ⟨by omega, ?_⟩; omega))
  · refine sf_iload rfl ?_
    refine sf_aload rfl ?_
    refine sf_geti hI0 rfl rfl (fun v9 lv9 uv9 ev9 => ?_)
    refine sf_f2_ge (fun h10 => ?_) (fun h10 => ?_)
    · refine sf_iconst sf_c0 (fun z11 ez11 => ?_)
      refine sf_zreturn (by omega) rfl rfl ?_
      refine sf_f1_eq (fun h12 => ?_) (fun h12 => absurd h12 (by omega))
      refine sf_iconst sf_c1 (fun z13 ez13 => ?_)
      refine sf_puti hI0 hs0 rfl rfl (sf_bd _) rfl rfl rfl (fun w14 Iw14 sw14 kw14 uw14 => ?_)
      clear kw14
      refine sf_aload rfl ?_
      refine sf_geti Iw14 rfl rfl (fun v15 lv15 uv15 ev15 => ?_)
      rw [uw14] at ev15
      refine sf_f1_le (fun h16 => absurd h16 (by omega)) (fun h16 => ?_)
      refine sf_iconst sf_c0 (fun z17 ez17 => ?_)
      refine sf_ireturn rfl rfl ?_
      exact hR _ _ Iw14 sw14 (by omega) (by omega) (by rw [uw14]; first | (refine Or.inl ⟨by omega, ?_⟩; omega) | (refine Or.inr ⟨by omega, ?_⟩; omega))
    · refine sf_iconst sf_c1 (fun z18 ez18 => ?_)
      refine sf_zreturn (by omega) rfl rfl ?_
      refine sf_f1_eq (fun h19 => absurd h19 (by omega)) (fun h19 => ?_)
      refine sf_iload rfl ?_
      refine sf_iconst sf_c0 (fun z20 ez20 => ?_)
      refine sf_iconst sf_c7 (fun z21 ez21 => ?_)
      refine sf_call3 rfl rfl rfl ?_
      refine sf_sp (L := [(0, .inl (.int a_land)), (1, .inl (.int z20)), (2, .inl (.int z21))]) rfl rfl ?_
      refine sf_iload rfl ?_
      refine sf_iload rfl ?_
      refine sf_f2_lt (fun h22 => ?_) (fun h22 => ?_)
      · refine sf_iconst sf_c0 (fun z23 ez23 => ?_)
        refine sf_zreturn (by omega) rfl rfl ?_
        refine sf_f1_eq (fun h24 => ?_) (fun h24 => absurd h24 (by omega))
        refine sf_iconst sf_c1 (fun z25 ez25 => ?_)
        refine sf_puti hI0 hs0 rfl rfl (sf_bd _) rfl rfl rfl (fun w26 Iw26 sw26 kw26 uw26 => ?_)
        clear kw26
        refine sf_aload rfl ?_
        refine sf_geti Iw26 rfl rfl (fun v27 lv27 uv27 ev27 => ?_)
        rw [uw26] at ev27
        refine sf_f1_le (fun h28 => absurd h28 (by omega)) (fun h28 => ?_)
        refine sf_iconst sf_c0 (fun z29 ez29 => ?_)
        refine sf_ireturn rfl rfl ?_
        exact hR _ _ Iw26 sw26 (by omega) (by omega) (by rw [uw26]; first | (refine Or.inl ⟨by omega, ?_⟩; omega) | (refine Or.inr ⟨by omega, ?_⟩; omega))
      · refine sf_iload rfl ?_
        refine sf_iload rfl ?_
        refine sf_f2_gt (fun h30 => ?_) (fun h30 => ?_)
        · refine sf_iconst sf_c0 (fun z31 ez31 => ?_)
          refine sf_zreturn (by omega) rfl rfl ?_
          refine sf_f1_eq (fun h32 => ?_) (fun h32 => absurd h32 (by omega))
          refine sf_iconst sf_c1 (fun z33 ez33 => ?_)
          refine sf_puti hI0 hs0 rfl rfl (sf_bd _) rfl rfl rfl (fun w34 Iw34 sw34 kw34 uw34 => ?_)
          clear kw34
          refine sf_aload rfl ?_
          refine sf_geti Iw34 rfl rfl (fun v35 lv35 uv35 ev35 => ?_)
          rw [uw34] at ev35
          refine sf_f1_le (fun h36 => absurd h36 (by omega)) (fun h36 => ?_)
          refine sf_iconst sf_c0 (fun z37 ez37 => ?_)
          refine sf_ireturn rfl rfl ?_
          exact hR _ _ Iw34 sw34 (by omega) (by omega) (by rw [uw34]; first | (refine Or.inl ⟨by omega, ?_⟩; omega) | (refine Or.inr ⟨by omega, ?_⟩; omega))
        · refine sf_iconst sf_c1 (fun z38 ez38 => ?_)
          refine sf_zreturn (by omega) rfl rfl ?_
          refine sf_f1_eq (fun h39 => absurd h39 (by omega)) (fun h39 => ?_)
          refine sf_iload rfl ?_
          refine sf_iconst sf_c0 (fun z40 ez40 => ?_)
          refine sf_iconst sf_c9999 (fun z41 ez41 => ?_)
          refine sf_call3 rfl rfl rfl ?_
          refine sf_sp (L := [(0, .inl (.int a_when)), (1, .inl (.int z40)), (2, .inl (.int z41))]) rfl rfl ?_
          refine sf_iload rfl ?_
          refine sf_iload rfl ?_
          refine sf_f2_lt (fun h42 => ?_) (fun h42 => ?_)
          · refine sf_iconst sf_c0 (fun z43 ez43 => ?_)
            refine sf_zreturn (by omega) rfl rfl ?_
            refine sf_f1_eq (fun h44 => ?_) (fun h44 => absurd h44 (by omega))
            refine sf_iconst sf_c1 (fun z45 ez45 => ?_)
            refine sf_puti hI0 hs0 rfl rfl (sf_bd _) rfl rfl rfl (fun w46 Iw46 sw46 kw46 uw46 => ?_)
            clear kw46
            refine sf_aload rfl ?_
            refine sf_geti Iw46 rfl rfl (fun v47 lv47 uv47 ev47 => ?_)
            rw [uw46] at ev47
            refine sf_f1_le (fun h48 => absurd h48 (by omega)) (fun h48 => ?_)
            refine sf_iconst sf_c0 (fun z49 ez49 => ?_)
            refine sf_ireturn rfl rfl ?_
            exact hR _ _ Iw46 sw46 (by omega) (by omega) (by rw [uw46]; first | (refine Or.inl ⟨by omega, ?_⟩; omega) | (refine Or.inr ⟨by omega, ?_⟩; omega))
          · refine sf_iload rfl ?_
            refine sf_iload rfl ?_
            refine sf_f2_gt (fun h50 => ?_) (fun h50 => ?_)
            · refine sf_iconst sf_c0 (fun z51 ez51 => ?_)
              refine sf_zreturn (by omega) rfl rfl ?_
              refine sf_f1_eq (fun h52 => ?_) (fun h52 => absurd h52 (by omega))
              refine sf_iconst sf_c1 (fun z53 ez53 => ?_)
              refine sf_puti hI0 hs0 rfl rfl (sf_bd _) rfl rfl rfl (fun w54 Iw54 sw54 kw54 uw54 => ?_)
              clear kw54
              refine sf_aload rfl ?_
              refine sf_geti Iw54 rfl rfl (fun v55 lv55 uv55 ev55 => ?_)
              rw [uw54] at ev55
              refine sf_f1_le (fun h56 => absurd h56 (by omega)) (fun h56 => ?_)
              refine sf_iconst sf_c0 (fun z57 ez57 => ?_)
              refine sf_ireturn rfl rfl ?_
              exact hR _ _ Iw54 sw54 (by omega) (by omega) (by rw [uw54]; first | (refine Or.inl ⟨by omega, ?_⟩; omega) | (refine Or.inr ⟨by omega, ?_⟩; omega))
            · refine sf_iconst sf_c1 (fun z58 ez58 => ?_)
              refine sf_zreturn (by omega) rfl rfl ?_
              refine sf_f1_eq (fun h59 => absurd h59 (by omega)) (fun h59 => ?_)
              refine sf_iconst sf_c0 (fun z60 ez60 => ?_)
              refine sf_puti hI0 hs0 rfl rfl (sf_bd _) rfl rfl rfl (fun w61 Iw61 sw61 kw61 uw61 => ?_)
              clear kw61
              refine sf_aload rfl ?_
              refine sf_geti Iw61 rfl rfl (fun v62 lv62 uv62 ev62 => ?_)
              rw [uw61] at ev62
              refine sf_f1_le (fun h63 => ?_) (fun h63 => absurd h63 (by omega))
              refine sf_aload rfl ?_
              refine sf_iload rfl ?_
              refine sf_iload rfl ?_
              refine sf_iload rfl ?_
              refine sf_call4 rfl rfl rfl ?_
              refine sf_rv Iw61 rfl ?_
              refine sc_M_rateOf Iw61 (by omega) (by omega) (by rw [sf_mf sw61 (p := 71) (j := 1) rfl]; omega) (fun v64 lv64 uv64 q65_0 => ?_)
              rw [sf_ma sw61 (p := 72) rfl] at q65_0
              rw [sf_ma sw61 (p := 79) rfl] at q65_0
              rw [sf_ma sw61 (p := 80) rfl] at q65_0
              rw [sf_ma sw61 (p := 84) rfl] at q65_0
              rw [sf_ma sw61 (p := 85) rfl] at q65_0
              rw [sf_mf sw61 (p := 71) (j := 10) rfl] at q65_0
              refine sf_ireturn rfl rfl ?_
              exact hR _ _ Iw61 sw61 (by omega) (by omega) (by rw [uw61]; first | (refine Or.inl ⟨by omega, ?_⟩; omega) | (refine Or.inr ⟨by omega, ?_⟩; omega))
def sm_M_quota : List Nat := [71, 86, 87, 88, 89, 90, 91, 8100, 8118]
set_option maxRecDepth 100000 in
set_option maxHeartbeats 4000000 in
theorem sc_M_quota {w0 : wq_W} (hI0 : sf_I w0) {rt : Option wq_V → wq_W → Prop} {xt : Nat → wq_W → Prop} {a_heading : Int32} {a_land : Int32} {a_units : Int32} {a_a : Int32} {a_from : Int32} {a_to : Int32}  (hR : ∀ (r : Int32) (w : wq_W), sf_I w → sf_m sm_M_quota w0 w → 0 ≤ r.toInt → r.toInt ≤ 8 → ((((sf_f w 71 0).toInt = 0 ∧ (0 ≤ a_heading.toInt ∧ a_heading.toInt < (sf_f w0 71 1).toInt ∧ 0 ≤ a_land.toInt ∧ a_land.toInt ≤ 7 ∧ 1 ≤ a_units.toInt ∧ a_units.toInt ≤ 100000 ∧ 0 ≤ a_a.toInt ∧ a_a.toInt ≤ 10000 ∧ 0 ≤ a_from.toInt ∧ a_from.toInt ≤ a_to.toInt ∧ a_to.toInt ≤ 9999) ∧ ((sf_f w0 71 18).toInt < 8) ∧ (sf_f w 71 18).toInt = (sf_f w0 71 18).toInt + 1 ∧ r.toInt = (sf_f w0 71 18).toInt) ∨ ((sf_f w 71 0).toInt = 1 ∧ ¬ (0 ≤ a_heading.toInt ∧ a_heading.toInt < (sf_f w0 71 1).toInt ∧ 0 ≤ a_land.toInt ∧ a_land.toInt ≤ 7 ∧ 1 ≤ a_units.toInt ∧ a_units.toInt ≤ 100000 ∧ 0 ≤ a_a.toInt ∧ a_a.toInt ≤ 10000 ∧ 0 ≤ a_from.toInt ∧ a_from.toInt ≤ a_to.toInt ∧ a_to.toInt ≤ 9999) ∧ (sf_f w 71 18).toInt = (sf_f w0 71 18).toInt) ∨ ((sf_f w 71 0).toInt = 2 ∧ (0 ≤ a_heading.toInt ∧ a_heading.toInt < (sf_f w0 71 1).toInt ∧ 0 ≤ a_land.toInt ∧ a_land.toInt ≤ 7 ∧ 1 ≤ a_units.toInt ∧ a_units.toInt ≤ 100000 ∧ 0 ≤ a_a.toInt ∧ a_a.toInt ≤ 10000 ∧ 0 ≤ a_from.toInt ∧ a_from.toInt ≤ a_to.toInt ∧ a_to.toInt ≤ 9999) ∧ ¬ ((sf_f w0 71 18).toInt < 8) ∧ (sf_f w 71 18).toInt = (sf_f w0 71 18).toInt))) → (sf_U (sf_a w0 86) (sf_a w 86) (sf_f w0 71 18).toInt (sf_f w 71 0).toInt a_heading) → (sf_U (sf_a w0 87) (sf_a w 87) (sf_f w0 71 18).toInt (sf_f w 71 0).toInt a_land) → (sf_U (sf_a w0 88) (sf_a w 88) (sf_f w0 71 18).toInt (sf_f w 71 0).toInt a_a) → (sf_U (sf_a w0 89) (sf_a w 89) (sf_f w0 71 18).toInt (sf_f w 71 0).toInt a_from) → (sf_U (sf_a w0 90) (sf_a w 90) (sf_f w0 71 18).toInt (sf_f w 71 0).toInt a_to) → rt (some (.inl (.int r))) w) : ks_M_quota [.inl (.ref 71), .inl (.int a_heading), .inl (.int a_land), .inl (.int a_units), .inl (.int a_a), .inl (.int a_from), .inl (.int a_to)] w0 rt xt := by
  have hs0 : sf_m sm_M_quota w0 w0 := sf_m0
  refine sf_sp (L := [(0, .inl (.ref 71)), (1, .inl (.int a_heading)), (2, .inl (.int a_land)), (3, .inl (.int a_units)), (4, .inl (.int a_a)), (5, .inl (.int a_from)), (6, .inl (.int a_to))]) rfl rfl ?_
  refine sf_aload rfl ?_
  refine sf_iload rfl ?_
  refine sf_call2 rfl rfl rfl ?_
  refine sf_rv hI0 rfl ?_
  refine sf_sp (L := [(0, .inl (.ref 71)), (1, .inl (.int a_heading))]) rfl rfl ?_
  refine sf_iload rfl ?_
  refine sf_f1_lt (fun h1 => ?_) (fun h1 => ?_)
  · refine sf_iconst sf_c0 (fun z2 ez2 => ?_)
    refine sf_zreturn (by omega) rfl rfl ?_
    refine sf_f1_eq (fun h3 => ?_) (fun h3 => absurd h3 (by omega))
    refine sf_iconst sf_c0 (fun z4 ez4 => ?_)
    refine sf_istore (L' := [(0, .inl (.ref 71)), (1, .inl (.int a_heading)), (2, .inl (.int a_land)), (3, .inl (.int a_units)), (4, .inl (.int a_a)), (5, .inl (.int a_from)), (6, .inl (.int a_to))]) rfl ?_
    refine sf_aload rfl ?_
    refine sf_iload rfl ?_
    refine sf_f1_eq (fun h5 => ?_) (fun h5 => absurd h5 (by omega))
    refine sf_iconst sf_c1 (fun z6 ez6 => ?_)
    refine sf_puti hI0 hs0 rfl rfl (sf_bd _) rfl rfl rfl (fun w7 Iw7 sw7 kw7 uw7 => ?_)
    have c8 := sf_mf kw7 (p := 71) (j := 18) rfl
    have c9 := sf_ma kw7 (p := 86) rfl
    have c10 := sf_ma kw7 (p := 87) rfl
    have c11 := sf_ma kw7 (p := 88) rfl
    have c12 := sf_ma kw7 (p := 89) rfl
    have c13 := sf_ma kw7 (p := 90) rfl
    clear kw7
    refine sf_aload rfl ?_
    refine sf_geti Iw7 rfl rfl (fun v14 lv14 uv14 ev14 => ?_)
    rw [uw7] at ev14
    refine sf_f1_le (fun h15 => absurd h15 (by omega)) (fun h15 => ?_)
    refine sf_iconst sf_c0 (fun z16 ez16 => ?_)
    refine sf_ireturn rfl rfl ?_
    exact hR _ _ Iw7 sw7 (by omega) (by omega) (by rw [uw7]; rw [c8]; first | (refine Or.inl ⟨by omega, ?_⟩; omega) | (refine Or.inr (Or.inl ⟨by omega, ?_⟩); omega) | (refine Or.inr (Or.inr ⟨by omega, ?_⟩); omega)) (by rw [uw7]; rw [c9]; first | exact Or.inl ⟨by omega, rfl⟩ | exact Or.inr ⟨by omega, u86⟩) (by rw [uw7]; rw [c10]; first | exact Or.inl ⟨by omega, rfl⟩ | exact Or.inr ⟨by omega, u87⟩) (by rw [uw7]; rw [c11]; first | exact Or.inl ⟨by omega, rfl⟩ | exact Or.inr ⟨by omega, u88⟩) (by rw [uw7]; rw [c12]; first | exact Or.inl ⟨by omega, rfl⟩ | exact Or.inr ⟨by omega, u89⟩) (by rw [uw7]; rw [c13]; first | exact Or.inl ⟨by omega, rfl⟩ | exact Or.inr ⟨by omega, u90⟩)
  · refine sf_iload rfl ?_
    refine sf_aload rfl ?_
    refine sf_geti hI0 rfl rfl (fun v17 lv17 uv17 ev17 => ?_)
    refine sf_f2_ge (fun h18 => ?_) (fun h18 => ?_)
    · refine sf_iconst sf_c0 (fun z19 ez19 => ?_)
      refine sf_zreturn (by omega) rfl rfl ?_
      refine sf_f1_eq (fun h20 => ?_) (fun h20 => absurd h20 (by omega))
      refine sf_iconst sf_c0 (fun z21 ez21 => ?_)
      refine sf_istore (L' := [(0, .inl (.ref 71)), (1, .inl (.int a_heading)), (2, .inl (.int a_land)), (3, .inl (.int a_units)), (4, .inl (.int a_a)), (5, .inl (.int a_from)), (6, .inl (.int a_to))]) rfl ?_
      refine sf_aload rfl ?_
      refine sf_iload rfl ?_
      refine sf_f1_eq (fun h22 => ?_) (fun h22 => absurd h22 (by omega))
      refine sf_iconst sf_c1 (fun z23 ez23 => ?_)
      refine sf_puti hI0 hs0 rfl rfl (sf_bd _) rfl rfl rfl (fun w24 Iw24 sw24 kw24 uw24 => ?_)
      have c25 := sf_mf kw24 (p := 71) (j := 18) rfl
      have c26 := sf_ma kw24 (p := 86) rfl
      have c27 := sf_ma kw24 (p := 87) rfl
      have c28 := sf_ma kw24 (p := 88) rfl
      have c29 := sf_ma kw24 (p := 89) rfl
      have c30 := sf_ma kw24 (p := 90) rfl
      clear kw24
      refine sf_aload rfl ?_
      refine sf_geti Iw24 rfl rfl (fun v31 lv31 uv31 ev31 => ?_)
      rw [uw24] at ev31
      refine sf_f1_le (fun h32 => absurd h32 (by omega)) (fun h32 => ?_)
      refine sf_iconst sf_c0 (fun z33 ez33 => ?_)
      refine sf_ireturn rfl rfl ?_
      exact hR _ _ Iw24 sw24 (by omega) (by omega) (by rw [uw24]; rw [c25]; first | (refine Or.inl ⟨by omega, ?_⟩; omega) | (refine Or.inr (Or.inl ⟨by omega, ?_⟩); omega) | (refine Or.inr (Or.inr ⟨by omega, ?_⟩); omega)) (by rw [uw24]; rw [c26]; first | exact Or.inl ⟨by omega, rfl⟩ | exact Or.inr ⟨by omega, u86⟩) (by rw [uw24]; rw [c27]; first | exact Or.inl ⟨by omega, rfl⟩ | exact Or.inr ⟨by omega, u87⟩) (by rw [uw24]; rw [c28]; first | exact Or.inl ⟨by omega, rfl⟩ | exact Or.inr ⟨by omega, u88⟩) (by rw [uw24]; rw [c29]; first | exact Or.inl ⟨by omega, rfl⟩ | exact Or.inr ⟨by omega, u89⟩) (by rw [uw24]; rw [c30]; first | exact Or.inl ⟨by omega, rfl⟩ | exact Or.inr ⟨by omega, u90⟩)
    · refine sf_iconst sf_c1 (fun z34 ez34 => ?_)
      refine sf_zreturn (by omega) rfl rfl ?_
      refine sf_f1_eq (fun h35 => absurd h35 (by omega)) (fun h35 => ?_)
      refine sf_iload rfl ?_
      refine sf_iconst sf_c0 (fun z36 ez36 => ?_)
      refine sf_iconst sf_c7 (fun z37 ez37 => ?_)
      refine sf_call3 rfl rfl rfl ?_
      refine sf_sp (L := [(0, .inl (.int a_land)), (1, .inl (.int z36)), (2, .inl (.int z37))]) rfl rfl ?_
      refine sf_iload rfl ?_
      refine sf_iload rfl ?_
      refine sf_f2_lt (fun h38 => ?_) (fun h38 => ?_)
      · refine sf_iconst sf_c0 (fun z39 ez39 => ?_)
        refine sf_zreturn (by omega) rfl rfl ?_
        refine sf_f1_eq (fun h40 => ?_) (fun h40 => absurd h40 (by omega))
        refine sf_iconst sf_c0 (fun z41 ez41 => ?_)
        refine sf_istore (L' := [(0, .inl (.ref 71)), (1, .inl (.int a_heading)), (2, .inl (.int a_land)), (3, .inl (.int a_units)), (4, .inl (.int a_a)), (5, .inl (.int a_from)), (6, .inl (.int a_to))]) rfl ?_
        refine sf_aload rfl ?_
        refine sf_iload rfl ?_
        refine sf_f1_eq (fun h42 => ?_) (fun h42 => absurd h42 (by omega))
        refine sf_iconst sf_c1 (fun z43 ez43 => ?_)
        refine sf_puti hI0 hs0 rfl rfl (sf_bd _) rfl rfl rfl (fun w44 Iw44 sw44 kw44 uw44 => ?_)
        have c45 := sf_mf kw44 (p := 71) (j := 18) rfl
        have c46 := sf_ma kw44 (p := 86) rfl
        have c47 := sf_ma kw44 (p := 87) rfl
        have c48 := sf_ma kw44 (p := 88) rfl
        have c49 := sf_ma kw44 (p := 89) rfl
        have c50 := sf_ma kw44 (p := 90) rfl
        clear kw44
        refine sf_aload rfl ?_
        refine sf_geti Iw44 rfl rfl (fun v51 lv51 uv51 ev51 => ?_)
        rw [uw44] at ev51
        refine sf_f1_le (fun h52 => absurd h52 (by omega)) (fun h52 => ?_)
        refine sf_iconst sf_c0 (fun z53 ez53 => ?_)
        refine sf_ireturn rfl rfl ?_
        exact hR _ _ Iw44 sw44 (by omega) (by omega) (by rw [uw44]; rw [c45]; first | (refine Or.inl ⟨by omega, ?_⟩; omega) | (refine Or.inr (Or.inl ⟨by omega, ?_⟩); omega) | (refine Or.inr (Or.inr ⟨by omega, ?_⟩); omega)) (by rw [uw44]; rw [c46]; first | exact Or.inl ⟨by omega, rfl⟩ | exact Or.inr ⟨by omega, u86⟩) (by rw [uw44]; rw [c47]; first | exact Or.inl ⟨by omega, rfl⟩ | exact Or.inr ⟨by omega, u87⟩) (by rw [uw44]; rw [c48]; first | exact Or.inl ⟨by omega, rfl⟩ | exact Or.inr ⟨by omega, u88⟩) (by rw [uw44]; rw [c49]; first | exact Or.inl ⟨by omega, rfl⟩ | exact Or.inr ⟨by omega, u89⟩) (by rw [uw44]; rw [c50]; first | exact Or.inl ⟨by omega, rfl⟩ | exact Or.inr ⟨by omega, u90⟩)
      · refine sf_iload rfl ?_
        refine sf_iload rfl ?_
        refine sf_f2_gt (fun h54 => ?_) (fun h54 => ?_)
        · refine sf_iconst sf_c0 (fun z55 ez55 => ?_)
          refine sf_zreturn (by omega) rfl rfl ?_
          refine sf_f1_eq (fun h56 => ?_) (fun h56 => absurd h56 (by omega))
          refine sf_iconst sf_c0 (fun z57 ez57 => ?_)
          refine sf_istore (L' := [(0, .inl (.ref 71)), (1, .inl (.int a_heading)), (2, .inl (.int a_land)), (3, .inl (.int a_units)), (4, .inl (.int a_a)), (5, .inl (.int a_from)), (6, .inl (.int a_to))]) rfl ?_
          refine sf_aload rfl ?_
          refine sf_iload rfl ?_
          refine sf_f1_eq (fun h58 => ?_) (fun h58 => absurd h58 (by omega))
          refine sf_iconst sf_c1 (fun z59 ez59 => ?_)
          refine sf_puti hI0 hs0 rfl rfl (sf_bd _) rfl rfl rfl (fun w60 Iw60 sw60 kw60 uw60 => ?_)
          have c61 := sf_mf kw60 (p := 71) (j := 18) rfl
          have c62 := sf_ma kw60 (p := 86) rfl
          have c63 := sf_ma kw60 (p := 87) rfl
          have c64 := sf_ma kw60 (p := 88) rfl
          have c65 := sf_ma kw60 (p := 89) rfl
          have c66 := sf_ma kw60 (p := 90) rfl
          clear kw60
          refine sf_aload rfl ?_
          refine sf_geti Iw60 rfl rfl (fun v67 lv67 uv67 ev67 => ?_)
          rw [uw60] at ev67
          refine sf_f1_le (fun h68 => absurd h68 (by omega)) (fun h68 => ?_)
          refine sf_iconst sf_c0 (fun z69 ez69 => ?_)
          refine sf_ireturn rfl rfl ?_
          exact hR _ _ Iw60 sw60 (by omega) (by omega) (by rw [uw60]; rw [c61]; first | (refine Or.inl ⟨by omega, ?_⟩; omega) | (refine Or.inr (Or.inl ⟨by omega, ?_⟩); omega) | (refine Or.inr (Or.inr ⟨by omega, ?_⟩); omega)) (by rw [uw60]; rw [c62]; first | exact Or.inl ⟨by omega, rfl⟩ | exact Or.inr ⟨by omega, u86⟩) (by rw [uw60]; rw [c63]; first | exact Or.inl ⟨by omega, rfl⟩ | exact Or.inr ⟨by omega, u87⟩) (by rw [uw60]; rw [c64]; first | exact Or.inl ⟨by omega, rfl⟩ | exact Or.inr ⟨by omega, u88⟩) (by rw [uw60]; rw [c65]; first | exact Or.inl ⟨by omega, rfl⟩ | exact Or.inr ⟨by omega, u89⟩) (by rw [uw60]; rw [c66]; first | exact Or.inl ⟨by omega, rfl⟩ | exact Or.inr ⟨by omega, u90⟩)
        · refine sf_iconst sf_c1 (fun z70 ez70 => ?_)
          refine sf_zreturn (by omega) rfl rfl ?_
          refine sf_f1_eq (fun h71 => absurd h71 (by omega)) (fun h71 => ?_)
          refine sf_iload rfl ?_
          refine sf_iconst sf_c1 (fun z72 ez72 => ?_)
          refine sf_iconst sf_cl100000 (fun z73 ez73 => ?_)
          refine sf_call3 rfl rfl rfl ?_
          refine sf_sp (L := [(0, .inl (.int a_units)), (1, .inl (.int z72)), (2, .inl (.int z73))]) rfl rfl ?_
          refine sf_iload rfl ?_
          refine sf_iload rfl ?_
          refine sf_f2_lt (fun h74 => ?_) (fun h74 => ?_)
          · refine sf_iconst sf_c0 (fun z75 ez75 => ?_)
            refine sf_zreturn (by omega) rfl rfl ?_
            refine sf_f1_eq (fun h76 => ?_) (fun h76 => absurd h76 (by omega))
            refine sf_iconst sf_c0 (fun z77 ez77 => ?_)
            refine sf_istore (L' := [(0, .inl (.ref 71)), (1, .inl (.int a_heading)), (2, .inl (.int a_land)), (3, .inl (.int a_units)), (4, .inl (.int a_a)), (5, .inl (.int a_from)), (6, .inl (.int a_to))]) rfl ?_
            refine sf_aload rfl ?_
            refine sf_iload rfl ?_
            refine sf_f1_eq (fun h78 => ?_) (fun h78 => absurd h78 (by omega))
            refine sf_iconst sf_c1 (fun z79 ez79 => ?_)
            refine sf_puti hI0 hs0 rfl rfl (sf_bd _) rfl rfl rfl (fun w80 Iw80 sw80 kw80 uw80 => ?_)
            have c81 := sf_mf kw80 (p := 71) (j := 18) rfl
            have c82 := sf_ma kw80 (p := 86) rfl
            have c83 := sf_ma kw80 (p := 87) rfl
            have c84 := sf_ma kw80 (p := 88) rfl
            have c85 := sf_ma kw80 (p := 89) rfl
            have c86 := sf_ma kw80 (p := 90) rfl
            clear kw80
            refine sf_aload rfl ?_
            refine sf_geti Iw80 rfl rfl (fun v87 lv87 uv87 ev87 => ?_)
            rw [uw80] at ev87
            refine sf_f1_le (fun h88 => absurd h88 (by omega)) (fun h88 => ?_)
            refine sf_iconst sf_c0 (fun z89 ez89 => ?_)
            refine sf_ireturn rfl rfl ?_
            exact hR _ _ Iw80 sw80 (by omega) (by omega) (by rw [uw80]; rw [c81]; first | (refine Or.inl ⟨by omega, ?_⟩; omega) | (refine Or.inr (Or.inl ⟨by omega, ?_⟩); omega) | (refine Or.inr (Or.inr ⟨by omega, ?_⟩); omega)) (by rw [uw80]; rw [c82]; first | exact Or.inl ⟨by omega, rfl⟩ | exact Or.inr ⟨by omega, u86⟩) (by rw [uw80]; rw [c83]; first | exact Or.inl ⟨by omega, rfl⟩ | exact Or.inr ⟨by omega, u87⟩) (by rw [uw80]; rw [c84]; first | exact Or.inl ⟨by omega, rfl⟩ | exact Or.inr ⟨by omega, u88⟩) (by rw [uw80]; rw [c85]; first | exact Or.inl ⟨by omega, rfl⟩ | exact Or.inr ⟨by omega, u89⟩) (by rw [uw80]; rw [c86]; first | exact Or.inl ⟨by omega, rfl⟩ | exact Or.inr ⟨by omega, u90⟩)
          · refine sf_iload rfl ?_
            refine sf_iload rfl ?_
            refine sf_f2_gt (fun h90 => ?_) (fun h90 => ?_)
            · refine sf_iconst sf_c0 (fun z91 ez91 => ?_)
              refine sf_zreturn (by omega) rfl rfl ?_
              refine sf_f1_eq (fun h92 => ?_) (fun h92 => absurd h92 (by omega))
              refine sf_iconst sf_c0 (fun z93 ez93 => ?_)
              refine sf_istore (L' := [(0, .inl (.ref 71)), (1, .inl (.int a_heading)), (2, .inl (.int a_land)), (3, .inl (.int a_units)), (4, .inl (.int a_a)), (5, .inl (.int a_from)), (6, .inl (.int a_to))]) rfl ?_
              refine sf_aload rfl ?_
              refine sf_iload rfl ?_
              refine sf_f1_eq (fun h94 => ?_) (fun h94 => absurd h94 (by omega))
              refine sf_iconst sf_c1 (fun z95 ez95 => ?_)
              refine sf_puti hI0 hs0 rfl rfl (sf_bd _) rfl rfl rfl (fun w96 Iw96 sw96 kw96 uw96 => ?_)
              have c97 := sf_mf kw96 (p := 71) (j := 18) rfl
              have c98 := sf_ma kw96 (p := 86) rfl
              have c99 := sf_ma kw96 (p := 87) rfl
              have c100 := sf_ma kw96 (p := 88) rfl
              have c101 := sf_ma kw96 (p := 89) rfl
              have c102 := sf_ma kw96 (p := 90) rfl
              clear kw96
              refine sf_aload rfl ?_
              refine sf_geti Iw96 rfl rfl (fun v103 lv103 uv103 ev103 => ?_)
              rw [uw96] at ev103
              refine sf_f1_le (fun h104 => absurd h104 (by omega)) (fun h104 => ?_)
              refine sf_iconst sf_c0 (fun z105 ez105 => ?_)
              refine sf_ireturn rfl rfl ?_
              exact hR _ _ Iw96 sw96 (by omega) (by omega) (by rw [uw96]; rw [c97]; first | (refine Or.inl ⟨by omega, ?_⟩; omega) | (refine Or.inr (Or.inl ⟨by omega, ?_⟩); omega) | (refine Or.inr (Or.inr ⟨by omega, ?_⟩); omega)) (by rw [uw96]; rw [c98]; first | exact Or.inl ⟨by omega, rfl⟩ | exact Or.inr ⟨by omega, u86⟩) (by rw [uw96]; rw [c99]; first | exact Or.inl ⟨by omega, rfl⟩ | exact Or.inr ⟨by omega, u87⟩) (by rw [uw96]; rw [c100]; first | exact Or.inl ⟨by omega, rfl⟩ | exact Or.inr ⟨by omega, u88⟩) (by rw [uw96]; rw [c101]; first | exact Or.inl ⟨by omega, rfl⟩ | exact Or.inr ⟨by omega, u89⟩) (by rw [uw96]; rw [c102]; first | exact Or.inl ⟨by omega, rfl⟩ | exact Or.inr ⟨by omega, u90⟩)
            · refine sf_iconst sf_c1 (fun z106 ez106 => ?_)
              refine sf_zreturn (by omega) rfl rfl ?_
              refine sf_f1_eq (fun h107 => absurd h107 (by omega)) (fun h107 => ?_)
              refine sf_iload rfl ?_
              refine sf_iconst sf_c0 (fun z108 ez108 => ?_)
              refine sf_iconst sf_c10000 (fun z109 ez109 => ?_)
              refine sf_call3 rfl rfl rfl ?_
              refine sf_sp (L := [(0, .inl (.int a_a)), (1, .inl (.int z108)), (2, .inl (.int z109))]) rfl rfl ?_
              refine sf_iload rfl ?_
              refine sf_iload rfl ?_
              refine sf_f2_lt (fun h110 => ?_) (fun h110 => ?_)
              · refine sf_iconst sf_c0 (fun z111 ez111 => ?_)
                refine sf_zreturn (by omega) rfl rfl ?_
                refine sf_f1_eq (fun h112 => ?_) (fun h112 => absurd h112 (by omega))
                refine sf_iconst sf_c0 (fun z113 ez113 => ?_)
                refine sf_istore (L' := [(0, .inl (.ref 71)), (1, .inl (.int a_heading)), (2, .inl (.int a_land)), (3, .inl (.int a_units)), (4, .inl (.int a_a)), (5, .inl (.int a_from)), (6, .inl (.int a_to))]) rfl ?_
                refine sf_aload rfl ?_
                refine sf_iload rfl ?_
                refine sf_f1_eq (fun h114 => ?_) (fun h114 => absurd h114 (by omega))
                refine sf_iconst sf_c1 (fun z115 ez115 => ?_)
                refine sf_puti hI0 hs0 rfl rfl (sf_bd _) rfl rfl rfl (fun w116 Iw116 sw116 kw116 uw116 => ?_)
                have c117 := sf_mf kw116 (p := 71) (j := 18) rfl
                have c118 := sf_ma kw116 (p := 86) rfl
                have c119 := sf_ma kw116 (p := 87) rfl
                have c120 := sf_ma kw116 (p := 88) rfl
                have c121 := sf_ma kw116 (p := 89) rfl
                have c122 := sf_ma kw116 (p := 90) rfl
                clear kw116
                refine sf_aload rfl ?_
                refine sf_geti Iw116 rfl rfl (fun v123 lv123 uv123 ev123 => ?_)
                rw [uw116] at ev123
                refine sf_f1_le (fun h124 => absurd h124 (by omega)) (fun h124 => ?_)
                refine sf_iconst sf_c0 (fun z125 ez125 => ?_)
                refine sf_ireturn rfl rfl ?_
                exact hR _ _ Iw116 sw116 (by omega) (by omega) (by rw [uw116]; rw [c117]; first | (refine Or.inl ⟨by omega, ?_⟩; omega) | (refine Or.inr (Or.inl ⟨by omega, ?_⟩); omega) | (refine Or.inr (Or.inr ⟨by omega, ?_⟩); omega)) (by rw [uw116]; rw [c118]; first | exact Or.inl ⟨by omega, rfl⟩ | exact Or.inr ⟨by omega, u86⟩) (by rw [uw116]; rw [c119]; first | exact Or.inl ⟨by omega, rfl⟩ | exact Or.inr ⟨by omega, u87⟩) (by rw [uw116]; rw [c120]; first | exact Or.inl ⟨by omega, rfl⟩ | exact Or.inr ⟨by omega, u88⟩) (by rw [uw116]; rw [c121]; first | exact Or.inl ⟨by omega, rfl⟩ | exact Or.inr ⟨by omega, u89⟩) (by rw [uw116]; rw [c122]; first | exact Or.inl ⟨by omega, rfl⟩ | exact Or.inr ⟨by omega, u90⟩)
              · refine sf_iload rfl ?_
                refine sf_iload rfl ?_
                refine sf_f2_gt (fun h126 => ?_) (fun h126 => ?_)
                · refine sf_iconst sf_c0 (fun z127 ez127 => ?_)
                  refine sf_zreturn (by omega) rfl rfl ?_
                  refine sf_f1_eq (fun h128 => ?_) (fun h128 => absurd h128 (by omega))
                  refine sf_iconst sf_c0 (fun z129 ez129 => ?_)
                  refine sf_istore (L' := [(0, .inl (.ref 71)), (1, .inl (.int a_heading)), (2, .inl (.int a_land)), (3, .inl (.int a_units)), (4, .inl (.int a_a)), (5, .inl (.int a_from)), (6, .inl (.int a_to))]) rfl ?_
                  refine sf_aload rfl ?_
                  refine sf_iload rfl ?_
                  refine sf_f1_eq (fun h130 => ?_) (fun h130 => absurd h130 (by omega))
                  refine sf_iconst sf_c1 (fun z131 ez131 => ?_)
                  refine sf_puti hI0 hs0 rfl rfl (sf_bd _) rfl rfl rfl (fun w132 Iw132 sw132 kw132 uw132 => ?_)
                  have c133 := sf_mf kw132 (p := 71) (j := 18) rfl
                  have c134 := sf_ma kw132 (p := 86) rfl
                  have c135 := sf_ma kw132 (p := 87) rfl
                  have c136 := sf_ma kw132 (p := 88) rfl
                  have c137 := sf_ma kw132 (p := 89) rfl
                  have c138 := sf_ma kw132 (p := 90) rfl
                  clear kw132
                  refine sf_aload rfl ?_
                  refine sf_geti Iw132 rfl rfl (fun v139 lv139 uv139 ev139 => ?_)
                  rw [uw132] at ev139
                  refine sf_f1_le (fun h140 => absurd h140 (by omega)) (fun h140 => ?_)
                  refine sf_iconst sf_c0 (fun z141 ez141 => ?_)
                  refine sf_ireturn rfl rfl ?_
                  exact hR _ _ Iw132 sw132 (by omega) (by omega) (by rw [uw132]; rw [c133]; first | (refine Or.inl ⟨by omega, ?_⟩; omega) | (refine Or.inr (Or.inl ⟨by omega, ?_⟩); omega) | (refine Or.inr (Or.inr ⟨by omega, ?_⟩); omega)) (by rw [uw132]; rw [c134]; first | exact Or.inl ⟨by omega, rfl⟩ | exact Or.inr ⟨by omega, u86⟩) (by rw [uw132]; rw [c135]; first | exact Or.inl ⟨by omega, rfl⟩ | exact Or.inr ⟨by omega, u87⟩) (by rw [uw132]; rw [c136]; first | exact Or.inl ⟨by omega, rfl⟩ | exact Or.inr ⟨by omega, u88⟩) (by rw [uw132]; rw [c137]; first | exact Or.inl ⟨by omega, rfl⟩ | exact Or.inr ⟨by omega, u89⟩) (by rw [uw132]; rw [c138]; first | exact Or.inl ⟨by omega, rfl⟩ | exact Or.inr ⟨by omega, u90⟩)
                · refine sf_iconst sf_c1 (fun z142 ez142 => ?_)
                  refine sf_zreturn (by omega) rfl rfl ?_
                  refine sf_f1_eq (fun h143 => absurd h143 (by omega)) (fun h143 => ?_)
                  refine sf_iconst sf_c1 (fun z144 ez144 => ?_)
                  refine sf_istore (L' := [(0, .inl (.ref 71)), (1, .inl (.int a_heading)), (2, .inl (.int a_land)), (3, .inl (.int a_units)), (4, .inl (.int a_a)), (5, .inl (.int a_from)), (6, .inl (.int a_to))]) rfl ?_
                  refine sf_aload rfl ?_
                  refine sf_iload rfl ?_
                  refine sf_f1_eq (fun h145 => absurd h145 (by omega)) (fun h145 => ?_)
                  refine sf_iload rfl ?_
                  refine sf_f1_lt (fun h146 => ?_) (fun h146 => ?_)
                  · refine sf_iconst sf_c1 (fun z147 ez147 => ?_)
                    refine sf_puti hI0 hs0 rfl rfl (sf_bd _) rfl rfl rfl (fun w148 Iw148 sw148 kw148 uw148 => ?_)
                    have c149 := sf_mf kw148 (p := 71) (j := 18) rfl
                    have c150 := sf_ma kw148 (p := 86) rfl
                    have c151 := sf_ma kw148 (p := 87) rfl
                    have c152 := sf_ma kw148 (p := 88) rfl
                    have c153 := sf_ma kw148 (p := 89) rfl
                    have c154 := sf_ma kw148 (p := 90) rfl
                    clear kw148
                    refine sf_aload rfl ?_
                    refine sf_geti Iw148 rfl rfl (fun v155 lv155 uv155 ev155 => ?_)
                    rw [uw148] at ev155
                    refine sf_f1_le (fun h156 => absurd h156 (by omega)) (fun h156 => ?_)
                    refine sf_iconst sf_c0 (fun z157 ez157 => ?_)
                    refine sf_ireturn rfl rfl ?_
                    exact hR _ _ Iw148 sw148 (by omega) (by omega) (by rw [uw148]; rw [c149]; first | (refine Or.inl ⟨by omega, ?_⟩; omega) | (refine Or.inr (Or.inl ⟨by omega, ?_⟩); omega) | (refine Or.inr (Or.inr ⟨by omega, ?_⟩); omega)) (by rw [uw148]; rw [c150]; first | exact Or.inl ⟨by omega, rfl⟩ | exact Or.inr ⟨by omega, u86⟩) (by rw [uw148]; rw [c151]; first | exact Or.inl ⟨by omega, rfl⟩ | exact Or.inr ⟨by omega, u87⟩) (by rw [uw148]; rw [c152]; first | exact Or.inl ⟨by omega, rfl⟩ | exact Or.inr ⟨by omega, u88⟩) (by rw [uw148]; rw [c153]; first | exact Or.inl ⟨by omega, rfl⟩ | exact Or.inr ⟨by omega, u89⟩) (by rw [uw148]; rw [c154]; first | exact Or.inl ⟨by omega, rfl⟩ | exact Or.inr ⟨by omega, u90⟩)
                  · refine sf_iload rfl ?_
                    refine sf_iload rfl ?_
                    refine sf_f2_gt (fun h158 => ?_) (fun h158 => ?_)
                    · refine sf_iconst sf_c1 (fun z159 ez159 => ?_)
                      refine sf_puti hI0 hs0 rfl rfl (sf_bd _) rfl rfl rfl (fun w160 Iw160 sw160 kw160 uw160 => ?_)
                      have c161 := sf_mf kw160 (p := 71) (j := 18) rfl
                      have c162 := sf_ma kw160 (p := 86) rfl
                      have c163 := sf_ma kw160 (p := 87) rfl
                      have c164 := sf_ma kw160 (p := 88) rfl
                      have c165 := sf_ma kw160 (p := 89) rfl
                      have c166 := sf_ma kw160 (p := 90) rfl
                      clear kw160
                      refine sf_aload rfl ?_
                      refine sf_geti Iw160 rfl rfl (fun v167 lv167 uv167 ev167 => ?_)
                      rw [uw160] at ev167
                      refine sf_f1_le (fun h168 => absurd h168 (by omega)) (fun h168 => ?_)
                      refine sf_iconst sf_c0 (fun z169 ez169 => ?_)
                      refine sf_ireturn rfl rfl ?_
                      exact hR _ _ Iw160 sw160 (by omega) (by omega) (by rw [uw160]; rw [c161]; first | (refine Or.inl ⟨by omega, ?_⟩; omega) | (refine Or.inr (Or.inl ⟨by omega, ?_⟩); omega) | (refine Or.inr (Or.inr ⟨by omega, ?_⟩); omega)) (by rw [uw160]; rw [c162]; first | exact Or.inl ⟨by omega, rfl⟩ | exact Or.inr ⟨by omega, u86⟩) (by rw [uw160]; rw [c163]; first | exact Or.inl ⟨by omega, rfl⟩ | exact Or.inr ⟨by omega, u87⟩) (by rw [uw160]; rw [c164]; first | exact Or.inl ⟨by omega, rfl⟩ | exact Or.inr ⟨by omega, u88⟩) (by rw [uw160]; rw [c165]; first | exact Or.inl ⟨by omega, rfl⟩ | exact Or.inr ⟨by omega, u89⟩) (by rw [uw160]; rw [c166]; first | exact Or.inl ⟨by omega, rfl⟩ | exact Or.inr ⟨by omega, u90⟩)
                    · refine sf_iload rfl ?_
                      refine sf_iconst sf_c9999 (fun z170 ez170 => ?_)
                      refine sf_f2_le (fun h171 => ?_) (fun h171 => ?_)
                      · refine sf_aload rfl ?_
                        refine sf_geti hI0 rfl rfl (fun v172 lv172 uv172 ev172 => ?_)
                        refine sf_iconst sf_c8 (fun z173 ez173 => ?_)
                        refine sf_f2_eq (fun h174 => ?_) (fun h174 => ?_)
                        · refine sf_iconst sf_c2 (fun z175 ez175 => ?_)
                          refine sf_puti hI0 hs0 rfl rfl (sf_bd _) rfl rfl rfl (fun w176 Iw176 sw176 kw176 uw176 => ?_)
                          have c177 := sf_mf kw176 (p := 71) (j := 18) rfl
                          have c178 := sf_ma kw176 (p := 86) rfl
                          have c179 := sf_ma kw176 (p := 87) rfl
                          have c180 := sf_ma kw176 (p := 88) rfl
                          have c181 := sf_ma kw176 (p := 89) rfl
                          have c182 := sf_ma kw176 (p := 90) rfl
                          clear kw176
                          refine sf_aload rfl ?_
                          refine sf_geti Iw176 rfl rfl (fun v183 lv183 uv183 ev183 => ?_)
                          rw [uw176] at ev183
                          refine sf_f1_le (fun h184 => absurd h184 (by omega)) (fun h184 => ?_)
                          refine sf_iconst sf_c0 (fun z185 ez185 => ?_)
                          refine sf_ireturn rfl rfl ?_
                          exact hR _ _ Iw176 sw176 (by omega) (by omega) (by rw [uw176]; rw [c177]; first | (refine Or.inl ⟨by omega, ?_⟩; omega) | (refine Or.inr (Or.inl ⟨by omega, ?_⟩); omega) | (refine Or.inr (Or.inr ⟨by omega, ?_⟩); omega)) (by rw [uw176]; rw [c178]; first | exact Or.inl ⟨by omega, rfl⟩ | exact Or.inr ⟨by omega, u86⟩) (by rw [uw176]; rw [c179]; first | exact Or.inl ⟨by omega, rfl⟩ | exact Or.inr ⟨by omega, u87⟩) (by rw [uw176]; rw [c180]; first | exact Or.inl ⟨by omega, rfl⟩ | exact Or.inr ⟨by omega, u88⟩) (by rw [uw176]; rw [c181]; first | exact Or.inl ⟨by omega, rfl⟩ | exact Or.inr ⟨by omega, u89⟩) (by rw [uw176]; rw [c182]; first | exact Or.inl ⟨by omega, rfl⟩ | exact Or.inr ⟨by omega, u90⟩)
                        · refine sf_iconst sf_c0 (fun z186 ez186 => ?_)
                          refine sf_puti hI0 hs0 rfl rfl (sf_bd _) rfl rfl rfl (fun w187 Iw187 sw187 kw187 uw187 => ?_)
                          have c188 := sf_mf kw187 (p := 71) (j := 18) rfl
                          have c189 := sf_ma kw187 (p := 86) rfl
                          have c190 := sf_ma kw187 (p := 87) rfl
                          have c191 := sf_ma kw187 (p := 88) rfl
                          have c192 := sf_ma kw187 (p := 89) rfl
                          have c193 := sf_ma kw187 (p := 90) rfl
                          clear kw187
                          refine sf_aload rfl ?_
                          refine sf_geti Iw187 rfl rfl (fun v194 lv194 uv194 ev194 => ?_)
                          rw [uw187] at ev194
                          refine sf_f1_le (fun h195 => ?_) (fun h195 => absurd h195 (by omega))
                          refine sf_aload rfl ?_
                          refine sf_getr Iw187 rfl rfl ?_
                          refine sf_aload rfl ?_
                          refine sf_geti Iw187 rfl rfl (fun v196 lv196 uv196 ev196 => ?_)
                          rw [c188] at ev196
                          refine sf_iload rfl ?_
                          refine sf_iast Iw187 sw187 rfl (by omega) (sf_bd _) rfl rfl (fun w197 Iw197 sw197 kw197 uw197 => ?_)
                          have c198 := sf_mf kw197 (p := 71) (j := 0) rfl
                          have c199 := sf_mf kw197 (p := 71) (j := 18) rfl
                          have c200 := sf_ma kw197 (p := 87) rfl
                          have c201 := sf_ma kw197 (p := 88) rfl
                          have c202 := sf_ma kw197 (p := 89) rfl
                          have c203 := sf_ma kw197 (p := 90) rfl
                          clear kw197
                          have u86 := uw197
                          rw [show v196.toInt = (sf_f w0 71 18).toInt by omega] at u86
                          rw [c189] at u86
                          refine sf_aload rfl ?_
                          refine sf_getr Iw197 rfl rfl ?_
                          refine sf_aload rfl ?_
                          refine sf_geti Iw197 rfl rfl (fun v204 lv204 uv204 ev204 => ?_)
                          rw [c199, c188] at ev204
                          refine sf_iload rfl ?_
                          refine sf_iast Iw197 sw197 rfl (by omega) (sf_bd _) rfl rfl (fun w205 Iw205 sw205 kw205 uw205 => ?_)
                          have c206 := sf_mf kw205 (p := 71) (j := 0) rfl
                          have c207 := sf_mf kw205 (p := 71) (j := 18) rfl
                          have c208 := sf_ma kw205 (p := 86) rfl
                          have c209 := sf_ma kw205 (p := 88) rfl
                          have c210 := sf_ma kw205 (p := 89) rfl
                          have c211 := sf_ma kw205 (p := 90) rfl
                          clear kw205
                          have u87 := uw205
                          rw [show v204.toInt = (sf_f w0 71 18).toInt by omega] at u87
                          rw [c200, c190] at u87
                          refine sf_aload rfl ?_
                          refine sf_getr Iw205 rfl rfl ?_
                          refine sf_aload rfl ?_
                          refine sf_geti Iw205 rfl rfl (fun v212 lv212 uv212 ev212 => ?_)
                          rw [c207, c199, c188] at ev212
                          refine sf_iload rfl ?_
                          refine sf_iast Iw205 sw205 rfl (by omega) (sf_bd _) rfl rfl (fun w213 Iw213 sw213 kw213 uw213 => ?_)
                          have c214 := sf_mf kw213 (p := 71) (j := 0) rfl
                          have c215 := sf_mf kw213 (p := 71) (j := 18) rfl
                          have c216 := sf_ma kw213 (p := 86) rfl
                          have c217 := sf_ma kw213 (p := 87) rfl
                          have c218 := sf_ma kw213 (p := 89) rfl
                          have c219 := sf_ma kw213 (p := 90) rfl
                          clear kw213
                          have u88 := uw213
                          rw [show v212.toInt = (sf_f w0 71 18).toInt by omega] at u88
                          rw [c209, c201, c191] at u88
                          refine sf_aload rfl ?_
                          refine sf_getr Iw213 rfl rfl ?_
                          refine sf_aload rfl ?_
                          refine sf_geti Iw213 rfl rfl (fun v220 lv220 uv220 ev220 => ?_)
                          rw [c215, c207, c199, c188] at ev220
                          refine sf_iload rfl ?_
                          refine sf_iast Iw213 sw213 rfl (by omega) (sf_bd _) rfl rfl (fun w221 Iw221 sw221 kw221 uw221 => ?_)
                          have c222 := sf_mf kw221 (p := 71) (j := 0) rfl
                          have c223 := sf_mf kw221 (p := 71) (j := 18) rfl
                          have c224 := sf_ma kw221 (p := 86) rfl
                          have c225 := sf_ma kw221 (p := 87) rfl
                          have c226 := sf_ma kw221 (p := 88) rfl
                          have c227 := sf_ma kw221 (p := 90) rfl
                          clear kw221
                          have u89 := uw221
                          rw [show v220.toInt = (sf_f w0 71 18).toInt by omega] at u89
                          rw [c218, c210, c202, c192] at u89
                          refine sf_aload rfl ?_
                          refine sf_getr Iw221 rfl rfl ?_
                          refine sf_aload rfl ?_
                          refine sf_geti Iw221 rfl rfl (fun v228 lv228 uv228 ev228 => ?_)
                          rw [c223, c215, c207, c199, c188] at ev228
                          refine sf_iload rfl ?_
                          refine sf_iast Iw221 sw221 rfl (by omega) (sf_bd _) rfl rfl (fun w229 Iw229 sw229 kw229 uw229 => ?_)
                          have c230 := sf_mf kw229 (p := 71) (j := 0) rfl
                          have c231 := sf_mf kw229 (p := 71) (j := 18) rfl
                          have c232 := sf_ma kw229 (p := 86) rfl
                          have c233 := sf_ma kw229 (p := 87) rfl
                          have c234 := sf_ma kw229 (p := 88) rfl
                          have c235 := sf_ma kw229 (p := 89) rfl
                          clear kw229
                          have u90 := uw229
                          rw [show v228.toInt = (sf_f w0 71 18).toInt by omega] at u90
                          rw [c227, c219, c211, c203, c193] at u90
                          refine sf_aload rfl ?_
                          refine sf_getr Iw229 rfl rfl ?_
                          refine sf_aload rfl ?_
                          refine sf_geti Iw229 rfl rfl (fun v236 lv236 uv236 ev236 => ?_)
                          rw [c231, c223, c215, c207, c199, c188] at ev236
                          refine sf_iload rfl ?_
                          refine sf_iast Iw229 sw229 rfl (by omega) (sf_bd _) rfl rfl (fun w237 Iw237 sw237 kw237 uw237 => ?_)
                          have c238 := sf_mf kw237 (p := 71) (j := 0) rfl
                          have c239 := sf_mf kw237 (p := 71) (j := 18) rfl
                          have c240 := sf_ma kw237 (p := 86) rfl
                          have c241 := sf_ma kw237 (p := 87) rfl
                          have c242 := sf_ma kw237 (p := 88) rfl
                          have c243 := sf_ma kw237 (p := 89) rfl
                          have c244 := sf_ma kw237 (p := 90) rfl
                          clear kw237 uw237
                          refine sf_aload rfl ?_
                          refine sf_dup rfl ?_
                          refine sf_geti Iw237 rfl rfl (fun v245 lv245 uv245 ev245 => ?_)
                          rw [c239, c231, c223, c215, c207, c199, c188] at ev245
                          refine sf_iconst sf_c1 (fun z246 ez246 => ?_)
                          refine sf_iadd (by omega) (fun v247 ev247 => ?_)
                          refine sf_puti Iw237 sw237 rfl rfl (by omega) rfl rfl rfl (fun w248 Iw248 sw248 kw248 uw248 => ?_)
                          have c249 := sf_mf kw248 (p := 71) (j := 0) rfl
                          have c250 := sf_ma kw248 (p := 86) rfl
                          have c251 := sf_ma kw248 (p := 87) rfl
                          have c252 := sf_ma kw248 (p := 88) rfl
                          have c253 := sf_ma kw248 (p := 89) rfl
                          have c254 := sf_ma kw248 (p := 90) rfl
                          clear kw248
                          refine sf_aload rfl ?_
                          refine sf_geti Iw248 rfl rfl (fun v255 lv255 uv255 ev255 => ?_)
                          rw [uw248] at ev255
                          refine sf_iconst sf_c1 (fun z256 ez256 => ?_)
                          refine sf_isub (by omega) (fun v257 ev257 => ?_)
                          refine sf_ireturn rfl rfl ?_
                          exact hR _ _ Iw248 sw248 (by omega) (by omega) (by rw [c249, c238, c230, c222, c214, c206, c198, uw187]; rw [uw248]; first | (refine Or.inl ⟨by omega, ?_⟩; omega) | (refine Or.inr (Or.inl ⟨by omega, ?_⟩); omega) | (refine Or.inr (Or.inr ⟨by omega, ?_⟩); omega)) (by rw [c249, c238, c230, c222, c214, c206, c198, uw187]; rw [c250, c240, c232, c224, c216, c208]; first | exact Or.inl ⟨by omega, rfl⟩ | exact Or.inr ⟨by omega, u86⟩) (by rw [c249, c238, c230, c222, c214, c206, c198, uw187]; rw [c251, c241, c233, c225, c217]; first | exact Or.inl ⟨by omega, rfl⟩ | exact Or.inr ⟨by omega, u87⟩) (by rw [c249, c238, c230, c222, c214, c206, c198, uw187]; rw [c252, c242, c234, c226]; first | exact Or.inl ⟨by omega, rfl⟩ | exact Or.inr ⟨by omega, u88⟩) (by rw [c249, c238, c230, c222, c214, c206, c198, uw187]; rw [c253, c243, c235]; first | exact Or.inl ⟨by omega, rfl⟩ | exact Or.inr ⟨by omega, u89⟩) (by rw [c249, c238, c230, c222, c214, c206, c198, uw187]; rw [c254, c244]; first | exact Or.inl ⟨by omega, rfl⟩ | exact Or.inr ⟨by omega, u90⟩)
                      · refine sf_iconst sf_c1 (fun z258 ez258 => ?_)
                        refine sf_puti hI0 hs0 rfl rfl (sf_bd _) rfl rfl rfl (fun w259 Iw259 sw259 kw259 uw259 => ?_)
                        have c260 := sf_mf kw259 (p := 71) (j := 18) rfl
                        have c261 := sf_ma kw259 (p := 86) rfl
                        have c262 := sf_ma kw259 (p := 87) rfl
                        have c263 := sf_ma kw259 (p := 88) rfl
                        have c264 := sf_ma kw259 (p := 89) rfl
                        have c265 := sf_ma kw259 (p := 90) rfl
                        clear kw259
                        refine sf_aload rfl ?_
                        refine sf_geti Iw259 rfl rfl (fun v266 lv266 uv266 ev266 => ?_)
                        rw [uw259] at ev266
                        refine sf_f1_le (fun h267 => absurd h267 (by omega)) (fun h267 => ?_)
                        refine sf_iconst sf_c0 (fun z268 ez268 => ?_)
                        refine sf_ireturn rfl rfl ?_
                        exact hR _ _ Iw259 sw259 (by omega) (by omega) (by rw [uw259]; rw [c260]; first | (refine Or.inl ⟨by omega, ?_⟩; omega) | (refine Or.inr (Or.inl ⟨by omega, ?_⟩); omega) | (refine Or.inr (Or.inr ⟨by omega, ?_⟩); omega)) (by rw [uw259]; rw [c261]; first | exact Or.inl ⟨by omega, rfl⟩ | exact Or.inr ⟨by omega, u86⟩) (by rw [uw259]; rw [c262]; first | exact Or.inl ⟨by omega, rfl⟩ | exact Or.inr ⟨by omega, u87⟩) (by rw [uw259]; rw [c263]; first | exact Or.inl ⟨by omega, rfl⟩ | exact Or.inr ⟨by omega, u88⟩) (by rw [uw259]; rw [c264]; first | exact Or.inl ⟨by omega, rfl⟩ | exact Or.inr ⟨by omega, u89⟩) (by rw [uw259]; rw [c265]; first | exact Or.inl ⟨by omega, rfl⟩ | exact Or.inr ⟨by omega, u90⟩)
def sm_M_quotaLeft : List Nat := [71, 8100]
set_option maxRecDepth 100000 in
set_option maxHeartbeats 4000000 in
theorem sc_M_quotaLeft {w0 : wq_W} (hI0 : sf_I w0) {rt : Option wq_V → wq_W → Prop} {xt : Nat → wq_W → Prop} {a_q : Int32}  (hR : ∀ (r : Int32) (w : wq_W), sf_I w → sf_m sm_M_quotaLeft w0 w → rt (some (.inl (.int r))) w) : ks_M_quotaLeft [.inl (.ref 71), .inl (.int a_q)] w0 rt xt := by
  have hs0 : sf_m sm_M_quotaLeft w0 w0 := sf_m0
  refine sf_sp (L := [(0, .inl (.ref 71)), (1, .inl (.int a_q))]) rfl rfl ?_
  refine sf_aload rfl ?_
  refine sf_iload rfl ?_
  refine sf_f1_lt (fun h1 => ?_) (fun h1 => ?_)
  · refine sf_iconst sf_c1 (fun z2 ez2 => ?_)
    refine sf_puti hI0 hs0 rfl rfl (sf_bd _) rfl rfl rfl (fun w3 Iw3 sw3 kw3 uw3 => ?_)
    clear kw3
    refine sf_aload rfl ?_
    refine sf_geti Iw3 rfl rfl (fun v4 lv4 uv4 ev4 => ?_)
    rw [uw3] at ev4
    refine sf_f1_le (fun h5 => absurd h5 (by omega)) (fun h5 => ?_)
    refine sf_iconst sf_c0 (fun z6 ez6 => ?_)
    refine sf_ireturn rfl rfl ?_
    exact hR _ _ Iw3 sw3 
  · refine sf_iload rfl ?_
    refine sf_aload rfl ?_
    refine sf_geti hI0 rfl rfl (fun v7 lv7 uv7 ev7 => ?_)
    refine sf_f2_ge (fun h8 => ?_) (fun h8 => ?_)
    · refine sf_iconst sf_c1 (fun z9 ez9 => ?_)
      refine sf_puti hI0 hs0 rfl rfl (sf_bd _) rfl rfl rfl (fun w10 Iw10 sw10 kw10 uw10 => ?_)
      clear kw10
      refine sf_aload rfl ?_
      refine sf_geti Iw10 rfl rfl (fun v11 lv11 uv11 ev11 => ?_)
      rw [uw10] at ev11
      refine sf_f1_le (fun h12 => absurd h12 (by omega)) (fun h12 => ?_)
      refine sf_iconst sf_c0 (fun z13 ez13 => ?_)
      refine sf_ireturn rfl rfl ?_
      exact hR _ _ Iw10 sw10 
    · refine sf_iconst sf_c0 (fun z14 ez14 => ?_)
      refine sf_puti hI0 hs0 rfl rfl (sf_bd _) rfl rfl rfl (fun w15 Iw15 sw15 kw15 uw15 => ?_)
      clear kw15
      refine sf_aload rfl ?_
      refine sf_geti Iw15 rfl rfl (fun v16 lv16 uv16 ev16 => ?_)
      rw [uw15] at ev16
      refine sf_f1_le (fun h17 => ?_) (fun h17 => absurd h17 (by omega))
      refine sf_aload rfl ?_
      refine sf_getr Iw15 rfl rfl ?_
      refine sf_iload rfl ?_
      refine sf_iald Iw15 rfl (by omega) (fun v18 lv18 uv18 ev18 => ?_)
      clear lv18 uv18
      clear ev18
      refine sf_ireturn rfl rfl ?_
      exact hR _ _ Iw15 sw15 
def sm_M_part : List Nat := [71, 94, 95, 96, 97, 100, 8100]
set_option maxRecDepth 100000 in
set_option maxHeartbeats 4000000 in
theorem sc_M_part {w0 : wq_W} (hI0 : sf_I w0) {rt : Option wq_V → wq_W → Prop} {xt : Nat → wq_W → Prop} {a_good : Int32} {a_of : Int32} {a_value : Int32} {a_land : Int32}  (hR : ∀ (r : Int32) (w : wq_W), sf_I w → sf_m sm_M_part w0 w → 0 ≤ r.toInt → r.toInt ≤ 5 → rt (some (.inl (.int r))) w) : ks_M_part [.inl (.ref 71), .inl (.int a_good), .inl (.int a_of), .inl (.int a_value), .inl (.int a_land)] w0 rt xt := by
  have hs0 : sf_m sm_M_part w0 w0 := sf_m0
  refine sf_sp (L := [(0, .inl (.ref 71)), (1, .inl (.int a_good)), (2, .inl (.int a_of)), (3, .inl (.int a_value)), (4, .inl (.int a_land))]) rfl rfl ?_
  refine sf_iload rfl ?_
  refine sf_iconst sf_c0 (fun z1 ez1 => ?_)
  refine sf_iconst sf_c15 (fun z2 ez2 => ?_)
  refine sf_call3 rfl rfl rfl ?_
  refine sf_sp (L := [(0, .inl (.int a_good)), (1, .inl (.int z1)), (2, .inl (.int z2))]) rfl rfl ?_
  refine sf_iload rfl ?_
  refine sf_iload rfl ?_
  refine sf_f2_lt (fun h3 => ?_) (fun h3 => ?_)
  · refine sf_iconst sf_c0 (fun z4 ez4 => ?_)
    refine sf_zreturn (by omega) rfl rfl ?_
    refine sf_f1_eq (fun h5 => ?_) (fun h5 => absurd h5 (by omega))
    refine sf_iconst sf_c0 (fun z6 ez6 => ?_)
    refine sf_istore (L' := [(0, .inl (.ref 71)), (1, .inl (.int a_good)), (2, .inl (.int a_of)), (3, .inl (.int a_value)), (4, .inl (.int a_land))]) rfl ?_
    refine sf_aload rfl ?_
    refine sf_iload rfl ?_
    refine sf_f1_eq (fun h7 => ?_) (fun h7 => absurd h7 (by omega))
    refine sf_iconst sf_c1 (fun z8 ez8 => ?_)
    refine sf_puti hI0 hs0 rfl rfl (sf_bd _) rfl rfl rfl (fun w9 Iw9 sw9 kw9 uw9 => ?_)
    have c10 := sf_ma kw9 (p := 94) rfl
    clear kw9
    refine sf_aload rfl ?_
    refine sf_geti Iw9 rfl rfl (fun v11 lv11 uv11 ev11 => ?_)
    rw [uw9] at ev11
    refine sf_f1_le (fun h12 => absurd h12 (by omega)) (fun h12 => ?_)
    refine sf_iconst sf_c0 (fun z13 ez13 => ?_)
    refine sf_ireturn rfl rfl ?_
    exact hR _ _ Iw9 sw9 (by omega) (by omega) 
  · refine sf_iload rfl ?_
    refine sf_iload rfl ?_
    refine sf_f2_gt (fun h14 => ?_) (fun h14 => ?_)
    · refine sf_iconst sf_c0 (fun z15 ez15 => ?_)
      refine sf_zreturn (by omega) rfl rfl ?_
      refine sf_f1_eq (fun h16 => ?_) (fun h16 => absurd h16 (by omega))
      refine sf_iconst sf_c0 (fun z17 ez17 => ?_)
      refine sf_istore (L' := [(0, .inl (.ref 71)), (1, .inl (.int a_good)), (2, .inl (.int a_of)), (3, .inl (.int a_value)), (4, .inl (.int a_land))]) rfl ?_
      refine sf_aload rfl ?_
      refine sf_iload rfl ?_
      refine sf_f1_eq (fun h18 => ?_) (fun h18 => absurd h18 (by omega))
      refine sf_iconst sf_c1 (fun z19 ez19 => ?_)
      refine sf_puti hI0 hs0 rfl rfl (sf_bd _) rfl rfl rfl (fun w20 Iw20 sw20 kw20 uw20 => ?_)
      have c21 := sf_ma kw20 (p := 94) rfl
      clear kw20
      refine sf_aload rfl ?_
      refine sf_geti Iw20 rfl rfl (fun v22 lv22 uv22 ev22 => ?_)
      rw [uw20] at ev22
      refine sf_f1_le (fun h23 => absurd h23 (by omega)) (fun h23 => ?_)
      refine sf_iconst sf_c0 (fun z24 ez24 => ?_)
      refine sf_ireturn rfl rfl ?_
      exact hR _ _ Iw20 sw20 (by omega) (by omega) 
    · refine sf_iconst sf_c1 (fun z25 ez25 => ?_)
      refine sf_zreturn (by omega) rfl rfl ?_
      refine sf_f1_eq (fun h26 => absurd h26 (by omega)) (fun h26 => ?_)
      refine sf_iload rfl ?_
      refine sf_iconst sf_c0 (fun z27 ez27 => ?_)
      refine sf_iconst sf_c15 (fun z28 ez28 => ?_)
      refine sf_call3 rfl rfl rfl ?_
      refine sf_sp (L := [(0, .inl (.int a_of)), (1, .inl (.int z27)), (2, .inl (.int z28))]) rfl rfl ?_
      refine sf_iload rfl ?_
      refine sf_iload rfl ?_
      refine sf_f2_lt (fun h29 => ?_) (fun h29 => ?_)
      · refine sf_iconst sf_c0 (fun z30 ez30 => ?_)
        refine sf_zreturn (by omega) rfl rfl ?_
        refine sf_f1_eq (fun h31 => ?_) (fun h31 => absurd h31 (by omega))
        refine sf_iconst sf_c0 (fun z32 ez32 => ?_)
        refine sf_istore (L' := [(0, .inl (.ref 71)), (1, .inl (.int a_good)), (2, .inl (.int a_of)), (3, .inl (.int a_value)), (4, .inl (.int a_land))]) rfl ?_
        refine sf_aload rfl ?_
        refine sf_iload rfl ?_
        refine sf_f1_eq (fun h33 => ?_) (fun h33 => absurd h33 (by omega))
        refine sf_iconst sf_c1 (fun z34 ez34 => ?_)
        refine sf_puti hI0 hs0 rfl rfl (sf_bd _) rfl rfl rfl (fun w35 Iw35 sw35 kw35 uw35 => ?_)
        have c36 := sf_ma kw35 (p := 94) rfl
        clear kw35
        refine sf_aload rfl ?_
        refine sf_geti Iw35 rfl rfl (fun v37 lv37 uv37 ev37 => ?_)
        rw [uw35] at ev37
        refine sf_f1_le (fun h38 => absurd h38 (by omega)) (fun h38 => ?_)
        refine sf_iconst sf_c0 (fun z39 ez39 => ?_)
        refine sf_ireturn rfl rfl ?_
        exact hR _ _ Iw35 sw35 (by omega) (by omega) 
      · refine sf_iload rfl ?_
        refine sf_iload rfl ?_
        refine sf_f2_gt (fun h40 => ?_) (fun h40 => ?_)
        · refine sf_iconst sf_c0 (fun z41 ez41 => ?_)
          refine sf_zreturn (by omega) rfl rfl ?_
          refine sf_f1_eq (fun h42 => ?_) (fun h42 => absurd h42 (by omega))
          refine sf_iconst sf_c0 (fun z43 ez43 => ?_)
          refine sf_istore (L' := [(0, .inl (.ref 71)), (1, .inl (.int a_good)), (2, .inl (.int a_of)), (3, .inl (.int a_value)), (4, .inl (.int a_land))]) rfl ?_
          refine sf_aload rfl ?_
          refine sf_iload rfl ?_
          refine sf_f1_eq (fun h44 => ?_) (fun h44 => absurd h44 (by omega))
          refine sf_iconst sf_c1 (fun z45 ez45 => ?_)
          refine sf_puti hI0 hs0 rfl rfl (sf_bd _) rfl rfl rfl (fun w46 Iw46 sw46 kw46 uw46 => ?_)
          have c47 := sf_ma kw46 (p := 94) rfl
          clear kw46
          refine sf_aload rfl ?_
          refine sf_geti Iw46 rfl rfl (fun v48 lv48 uv48 ev48 => ?_)
          rw [uw46] at ev48
          refine sf_f1_le (fun h49 => absurd h49 (by omega)) (fun h49 => ?_)
          refine sf_iconst sf_c0 (fun z50 ez50 => ?_)
          refine sf_ireturn rfl rfl ?_
          exact hR _ _ Iw46 sw46 (by omega) (by omega) 
        · refine sf_iconst sf_c1 (fun z51 ez51 => ?_)
          refine sf_zreturn (by omega) rfl rfl ?_
          refine sf_f1_eq (fun h52 => absurd h52 (by omega)) (fun h52 => ?_)
          refine sf_iload rfl ?_
          refine sf_iconst sf_c0 (fun z53 ez53 => ?_)
          refine sf_iconst sf_cl1000000 (fun z54 ez54 => ?_)
          refine sf_call3 rfl rfl rfl ?_
          refine sf_sp (L := [(0, .inl (.int a_value)), (1, .inl (.int z53)), (2, .inl (.int z54))]) rfl rfl ?_
          refine sf_iload rfl ?_
          refine sf_iload rfl ?_
          refine sf_f2_lt (fun h55 => ?_) (fun h55 => ?_)
          · refine sf_iconst sf_c0 (fun z56 ez56 => ?_)
            refine sf_zreturn (by omega) rfl rfl ?_
            refine sf_f1_eq (fun h57 => ?_) (fun h57 => absurd h57 (by omega))
            refine sf_iconst sf_c0 (fun z58 ez58 => ?_)
            refine sf_istore (L' := [(0, .inl (.ref 71)), (1, .inl (.int a_good)), (2, .inl (.int a_of)), (3, .inl (.int a_value)), (4, .inl (.int a_land))]) rfl ?_
            refine sf_aload rfl ?_
            refine sf_iload rfl ?_
            refine sf_f1_eq (fun h59 => ?_) (fun h59 => absurd h59 (by omega))
            refine sf_iconst sf_c1 (fun z60 ez60 => ?_)
            refine sf_puti hI0 hs0 rfl rfl (sf_bd _) rfl rfl rfl (fun w61 Iw61 sw61 kw61 uw61 => ?_)
            have c62 := sf_ma kw61 (p := 94) rfl
            clear kw61
            refine sf_aload rfl ?_
            refine sf_geti Iw61 rfl rfl (fun v63 lv63 uv63 ev63 => ?_)
            rw [uw61] at ev63
            refine sf_f1_le (fun h64 => absurd h64 (by omega)) (fun h64 => ?_)
            refine sf_iconst sf_c0 (fun z65 ez65 => ?_)
            refine sf_ireturn rfl rfl ?_
            exact hR _ _ Iw61 sw61 (by omega) (by omega) 
          · refine sf_iload rfl ?_
            refine sf_iload rfl ?_
            refine sf_f2_gt (fun h66 => ?_) (fun h66 => ?_)
            · refine sf_iconst sf_c0 (fun z67 ez67 => ?_)
              refine sf_zreturn (by omega) rfl rfl ?_
              refine sf_f1_eq (fun h68 => ?_) (fun h68 => absurd h68 (by omega))
              refine sf_iconst sf_c0 (fun z69 ez69 => ?_)
              refine sf_istore (L' := [(0, .inl (.ref 71)), (1, .inl (.int a_good)), (2, .inl (.int a_of)), (3, .inl (.int a_value)), (4, .inl (.int a_land))]) rfl ?_
              refine sf_aload rfl ?_
              refine sf_iload rfl ?_
              refine sf_f1_eq (fun h70 => ?_) (fun h70 => absurd h70 (by omega))
              refine sf_iconst sf_c1 (fun z71 ez71 => ?_)
              refine sf_puti hI0 hs0 rfl rfl (sf_bd _) rfl rfl rfl (fun w72 Iw72 sw72 kw72 uw72 => ?_)
              have c73 := sf_ma kw72 (p := 94) rfl
              clear kw72
              refine sf_aload rfl ?_
              refine sf_geti Iw72 rfl rfl (fun v74 lv74 uv74 ev74 => ?_)
              rw [uw72] at ev74
              refine sf_f1_le (fun h75 => absurd h75 (by omega)) (fun h75 => ?_)
              refine sf_iconst sf_c0 (fun z76 ez76 => ?_)
              refine sf_ireturn rfl rfl ?_
              exact hR _ _ Iw72 sw72 (by omega) (by omega) 
            · refine sf_iconst sf_c1 (fun z77 ez77 => ?_)
              refine sf_zreturn (by omega) rfl rfl ?_
              refine sf_f1_eq (fun h78 => absurd h78 (by omega)) (fun h78 => ?_)
              refine sf_iload rfl ?_
              refine sf_iconst sf_c0 (fun z79 ez79 => ?_)
              refine sf_iconst sf_c7 (fun z80 ez80 => ?_)
              refine sf_call3 rfl rfl rfl ?_
              refine sf_sp (L := [(0, .inl (.int a_land)), (1, .inl (.int z79)), (2, .inl (.int z80))]) rfl rfl ?_
              refine sf_iload rfl ?_
              refine sf_iload rfl ?_
              refine sf_f2_lt (fun h81 => ?_) (fun h81 => ?_)
              · refine sf_iconst sf_c0 (fun z82 ez82 => ?_)
                refine sf_zreturn (by omega) rfl rfl ?_
                refine sf_f1_eq (fun h83 => ?_) (fun h83 => absurd h83 (by omega))
                refine sf_iconst sf_c0 (fun z84 ez84 => ?_)
                refine sf_istore (L' := [(0, .inl (.ref 71)), (1, .inl (.int a_good)), (2, .inl (.int a_of)), (3, .inl (.int a_value)), (4, .inl (.int a_land))]) rfl ?_
                refine sf_aload rfl ?_
                refine sf_iload rfl ?_
                refine sf_f1_eq (fun h85 => ?_) (fun h85 => absurd h85 (by omega))
                refine sf_iconst sf_c1 (fun z86 ez86 => ?_)
                refine sf_puti hI0 hs0 rfl rfl (sf_bd _) rfl rfl rfl (fun w87 Iw87 sw87 kw87 uw87 => ?_)
                have c88 := sf_ma kw87 (p := 94) rfl
                clear kw87
                refine sf_aload rfl ?_
                refine sf_geti Iw87 rfl rfl (fun v89 lv89 uv89 ev89 => ?_)
                rw [uw87] at ev89
                refine sf_f1_le (fun h90 => absurd h90 (by omega)) (fun h90 => ?_)
                refine sf_iconst sf_c0 (fun z91 ez91 => ?_)
                refine sf_ireturn rfl rfl ?_
                exact hR _ _ Iw87 sw87 (by omega) (by omega) 
              · refine sf_iload rfl ?_
                refine sf_iload rfl ?_
                refine sf_f2_gt (fun h92 => ?_) (fun h92 => ?_)
                · refine sf_iconst sf_c0 (fun z93 ez93 => ?_)
                  refine sf_zreturn (by omega) rfl rfl ?_
                  refine sf_f1_eq (fun h94 => ?_) (fun h94 => absurd h94 (by omega))
                  refine sf_iconst sf_c0 (fun z95 ez95 => ?_)
                  refine sf_istore (L' := [(0, .inl (.ref 71)), (1, .inl (.int a_good)), (2, .inl (.int a_of)), (3, .inl (.int a_value)), (4, .inl (.int a_land))]) rfl ?_
                  refine sf_aload rfl ?_
                  refine sf_iload rfl ?_
                  refine sf_f1_eq (fun h96 => ?_) (fun h96 => absurd h96 (by omega))
                  refine sf_iconst sf_c1 (fun z97 ez97 => ?_)
                  refine sf_puti hI0 hs0 rfl rfl (sf_bd _) rfl rfl rfl (fun w98 Iw98 sw98 kw98 uw98 => ?_)
                  have c99 := sf_ma kw98 (p := 94) rfl
                  clear kw98
                  refine sf_aload rfl ?_
                  refine sf_geti Iw98 rfl rfl (fun v100 lv100 uv100 ev100 => ?_)
                  rw [uw98] at ev100
                  refine sf_f1_le (fun h101 => absurd h101 (by omega)) (fun h101 => ?_)
                  refine sf_iconst sf_c0 (fun z102 ez102 => ?_)
                  refine sf_ireturn rfl rfl ?_
                  exact hR _ _ Iw98 sw98 (by omega) (by omega) 
                · refine sf_iconst sf_c1 (fun z103 ez103 => ?_)
                  refine sf_zreturn (by omega) rfl rfl ?_
                  refine sf_f1_eq (fun h104 => absurd h104 (by omega)) (fun h104 => ?_)
                  refine sf_iconst sf_c1 (fun z105 ez105 => ?_)
                  refine sf_istore (L' := [(0, .inl (.ref 71)), (1, .inl (.int a_good)), (2, .inl (.int a_of)), (3, .inl (.int a_value)), (4, .inl (.int a_land))]) rfl ?_
                  refine sf_aload rfl ?_
                  refine sf_iload rfl ?_
                  refine sf_f1_eq (fun h106 => absurd h106 (by omega)) (fun h106 => ?_)
                  refine sf_aload rfl ?_
                  refine sf_iload rfl ?_
                  refine sf_iload rfl ?_
                  refine sf_call3 rfl rfl rfl ?_
                  refine sf_rv hI0 rfl ?_
                  refine sc_M_reaches hI0 (by omega) (by omega) (fun v107 w108 Iw108 tw108 lv107 uv107 => ?_)
                  have s110 := sf_mt hs0 tw108 rfl
                  have c111 := sf_mf tw108 (p := 71) (j := 0) rfl
                  have c112 := sf_ma tw108 (p := 94) rfl
                  refine sf_f1_eq (fun h113 => ?_) (fun h113 => ?_)
                  · refine sf_aload rfl ?_
                    refine sf_getr Iw108 rfl rfl ?_
                    refine sf_iload rfl ?_
                    refine sf_iald Iw108 rfl (by omega) (fun v114 lv114 uv114 ev114 => ?_)
                    rw [c112] at ev114
                    refine sf_iconst sf_c5 (fun z115 ez115 => ?_)
                    refine sf_f2_eq (fun h116 => ?_) (fun h116 => ?_)
                    · refine sf_iconst sf_c2 (fun z117 ez117 => ?_)
                      refine sf_puti Iw108 s110 rfl rfl (sf_bd _) rfl rfl rfl (fun w118 Iw118 sw118 kw118 uw118 => ?_)
                      have c119 := sf_ma kw118 (p := 94) rfl
                      clear kw118
                      refine sf_aload rfl ?_
                      refine sf_geti Iw118 rfl rfl (fun v120 lv120 uv120 ev120 => ?_)
                      rw [uw118] at ev120
                      refine sf_f1_le (fun h121 => absurd h121 (by omega)) (fun h121 => ?_)
                      refine sf_iconst sf_c0 (fun z122 ez122 => ?_)
                      refine sf_ireturn rfl rfl ?_
                      exact hR _ _ Iw118 sw118 (by omega) (by omega) 
                    · refine sf_iconst sf_c0 (fun z123 ez123 => ?_)
                      refine sf_puti Iw108 s110 rfl rfl (sf_bd _) rfl rfl rfl (fun w124 Iw124 sw124 kw124 uw124 => ?_)
                      have c125 := sf_ma kw124 (p := 94) rfl
                      clear kw124
                      refine sf_aload rfl ?_
                      refine sf_geti Iw124 rfl rfl (fun v126 lv126 uv126 ev126 => ?_)
                      rw [uw124] at ev126
                      refine sf_f1_le (fun h127 => ?_) (fun h127 => absurd h127 (by omega))
                      refine sf_iconst sf_c5 (fun z128 ez128 => ?_)
                      refine sf_iload rfl ?_
                      refine sf_imull (n := 5) (by omega) (by omega) (fun v129 ev129 => ?_)
                      refine sf_aload rfl ?_
                      refine sf_getr Iw124 rfl rfl ?_
                      refine sf_iload rfl ?_
                      refine sf_iald Iw124 rfl (by omega) (fun v130 lv130 uv130 ev130 => ?_)
                      rw [c125, c112] at ev130
                      refine sf_iadd (by omega) (fun v131 ev131 => ?_)
                      refine sf_istore (L' := [(5, .inl (.int z105)), (0, .inl (.ref 71)), (1, .inl (.int a_good)), (2, .inl (.int a_of)), (3, .inl (.int a_value)), (4, .inl (.int a_land))]) rfl ?_
                      refine sf_aload rfl ?_
                      refine sf_getr Iw124 rfl rfl ?_
                      refine sf_iload rfl ?_
                      refine sf_iload rfl ?_
                      refine sf_iast Iw124 sw124 rfl (by omega) (by omega) rfl rfl (fun w132 Iw132 sw132 kw132 uw132 => ?_)
                      have c133 := sf_mf kw132 (p := 71) (j := 0) rfl
                      have c134 := sf_ma kw132 (p := 94) rfl
                      clear kw132 uw132
                      refine sf_aload rfl ?_
                      refine sf_getr Iw132 rfl rfl ?_
                      refine sf_iload rfl ?_
                      refine sf_iload rfl ?_
                      refine sf_iast Iw132 sw132 rfl (by omega) (sf_bd _) rfl rfl (fun w135 Iw135 sw135 kw135 uw135 => ?_)
                      have c136 := sf_mf kw135 (p := 71) (j := 0) rfl
                      have c137 := sf_ma kw135 (p := 94) rfl
                      clear kw135 uw135
                      refine sf_aload rfl ?_
                      refine sf_getr Iw135 rfl rfl ?_
                      refine sf_iload rfl ?_
                      refine sf_iload rfl ?_
                      refine sf_iast Iw135 sw135 rfl (by omega) (sf_bd _) rfl rfl (fun w138 Iw138 sw138 kw138 uw138 => ?_)
                      have c139 := sf_mf kw138 (p := 71) (j := 0) rfl
                      have c140 := sf_ma kw138 (p := 94) rfl
                      clear kw138 uw138
                      refine sf_aload rfl ?_
                      refine sf_getr Iw138 rfl rfl ?_
                      refine sf_iload rfl ?_
                      refine sf_dup2 rfl rfl ?_
                      refine sf_iald Iw138 rfl (by omega) (fun v141 lv141 uv141 ev141 => ?_)
                      rw [c140, c137, c134, c125, c112] at ev141
                      refine sf_iconst sf_c1 (fun z142 ez142 => ?_)
                      refine sf_iadd (by omega) (fun v143 ev143 => ?_)
                      refine sf_iast Iw138 sw138 rfl (by omega) (by omega) rfl rfl (fun w144 Iw144 sw144 kw144 uw144 => ?_)
                      have c145 := sf_mf kw144 (p := 71) (j := 0) rfl
                      clear kw144 uw144
                      refine sf_aload rfl ?_
                      refine sf_getr Iw144 rfl rfl ?_
                      refine sf_iload rfl ?_
                      refine sf_iald Iw144 rfl (by omega) (fun v146 lv146 uv146 ev146 => ?_)
                      refine sf_ireturn rfl rfl ?_
                      exact hR _ _ Iw144 sw144 (by omega) (by omega) 
                  · refine sf_iconst sf_c1 (fun z147 ez147 => ?_)
                    refine sf_puti Iw108 s110 rfl rfl (sf_bd _) rfl rfl rfl (fun w148 Iw148 sw148 kw148 uw148 => ?_)
                    have c149 := sf_ma kw148 (p := 94) rfl
                    clear kw148
                    refine sf_aload rfl ?_
                    refine sf_geti Iw148 rfl rfl (fun v150 lv150 uv150 ev150 => ?_)
                    rw [uw148] at ev150
                    refine sf_f1_le (fun h151 => absurd h151 (by omega)) (fun h151 => ?_)
                    refine sf_iconst sf_c0 (fun z152 ez152 => ?_)
                    refine sf_ireturn rfl rfl ?_
                    exact hR _ _ Iw148 sw148 (by omega) (by omega) 
def sm_M_zone : List Nat := [71, 98, 8100]
set_option maxRecDepth 100000 in
set_option maxHeartbeats 4000000 in
theorem sc_M_zone {w0 : wq_W} (hI0 : sf_I w0) {rt : Option wq_V → wq_W → Prop} {xt : Nat → wq_W → Prop} {a_z : Int32} {a_lands : Int32}  (hR : ∀ (w : wq_W), sf_I w → sf_m sm_M_zone w0 w → ((((sf_f w 71 0).toInt = 0 ∧ 0 ≤ a_z.toInt ∧ a_z.toInt < 4 ∧ 0 ≤ a_lands.toInt ∧ a_lands.toInt < 256) ∨ ((sf_f w 71 0).toInt = 1 ∧ ¬ (0 ≤ a_z.toInt ∧ a_z.toInt < 4 ∧ 0 ≤ a_lands.toInt ∧ a_lands.toInt < 256)))) → rt none w) : ks_M_zone [.inl (.ref 71), .inl (.int a_z), .inl (.int a_lands)] w0 rt xt := by
  have hs0 : sf_m sm_M_zone w0 w0 := sf_m0
  refine sf_sp (L := [(0, .inl (.ref 71)), (1, .inl (.int a_z)), (2, .inl (.int a_lands))]) rfl rfl ?_
  refine sf_aload rfl ?_
  refine sf_iload rfl ?_
  refine sf_iconst sf_c0 (fun z1 ez1 => ?_)
  refine sf_iconst sf_c3 (fun z2 ez2 => ?_)
  refine sf_call3 rfl rfl rfl ?_
  refine sf_sp (L := [(0, .inl (.int a_z)), (1, .inl (.int z1)), (2, .inl (.int z2))]) rfl rfl ?_
  refine sf_iload rfl ?_
  refine sf_iload rfl ?_
  refine sf_f2_lt (fun h3 => ?_) (fun h3 => ?_)
  · refine sf_iconst sf_c0 (fun z4 ez4 => ?_)
    refine sf_zreturn (by omega) rfl rfl ?_
    refine sf_f1_eq (fun h5 => ?_) (fun h5 => absurd h5 (by omega))
    refine sf_iconst sf_c1 (fun z6 ez6 => ?_)
    refine sf_puti hI0 hs0 rfl rfl (sf_bd _) rfl rfl rfl (fun w7 Iw7 sw7 kw7 uw7 => ?_)
    clear kw7
    refine sf_aload rfl ?_
    refine sf_geti Iw7 rfl rfl (fun v8 lv8 uv8 ev8 => ?_)
    rw [uw7] at ev8
    refine sf_f1_eq (fun h9 => absurd h9 (by omega)) (fun h9 => ?_)
    refine sf_vreturn rfl rfl ?_
    exact hR _ Iw7 sw7 (by rw [uw7]; omega)
  · refine sf_iload rfl ?_
    refine sf_iload rfl ?_
    refine sf_f2_gt (fun h10 => ?_) (fun h10 => ?_)
    · refine sf_iconst sf_c0 (fun z11 ez11 => ?_)
      refine sf_zreturn (by omega) rfl rfl ?_
      refine sf_f1_eq (fun h12 => ?_) (fun h12 => absurd h12 (by omega))
      refine sf_iconst sf_c1 (fun z13 ez13 => ?_)
      refine sf_puti hI0 hs0 rfl rfl (sf_bd _) rfl rfl rfl (fun w14 Iw14 sw14 kw14 uw14 => ?_)
      clear kw14
      refine sf_aload rfl ?_
      refine sf_geti Iw14 rfl rfl (fun v15 lv15 uv15 ev15 => ?_)
      rw [uw14] at ev15
      refine sf_f1_eq (fun h16 => absurd h16 (by omega)) (fun h16 => ?_)
      refine sf_vreturn rfl rfl ?_
      exact hR _ Iw14 sw14 (by rw [uw14]; omega)
    · refine sf_iconst sf_c1 (fun z17 ez17 => ?_)
      refine sf_zreturn (by omega) rfl rfl ?_
      refine sf_f1_eq (fun h18 => absurd h18 (by omega)) (fun h18 => ?_)
      refine sf_iload rfl ?_
      refine sf_iconst sf_c0 (fun z19 ez19 => ?_)
      refine sf_iconst sf_c255 (fun z20 ez20 => ?_)
      refine sf_call3 rfl rfl rfl ?_
      refine sf_sp (L := [(0, .inl (.int a_lands)), (1, .inl (.int z19)), (2, .inl (.int z20))]) rfl rfl ?_
      refine sf_iload rfl ?_
      refine sf_iload rfl ?_
      refine sf_f2_lt (fun h21 => ?_) (fun h21 => ?_)
      · refine sf_iconst sf_c0 (fun z22 ez22 => ?_)
        refine sf_zreturn (by omega) rfl rfl ?_
        refine sf_f1_eq (fun h23 => ?_) (fun h23 => absurd h23 (by omega))
        refine sf_iconst sf_c1 (fun z24 ez24 => ?_)
        refine sf_puti hI0 hs0 rfl rfl (sf_bd _) rfl rfl rfl (fun w25 Iw25 sw25 kw25 uw25 => ?_)
        clear kw25
        refine sf_aload rfl ?_
        refine sf_geti Iw25 rfl rfl (fun v26 lv26 uv26 ev26 => ?_)
        rw [uw25] at ev26
        refine sf_f1_eq (fun h27 => absurd h27 (by omega)) (fun h27 => ?_)
        refine sf_vreturn rfl rfl ?_
        exact hR _ Iw25 sw25 (by rw [uw25]; omega)
      · refine sf_iload rfl ?_
        refine sf_iload rfl ?_
        refine sf_f2_gt (fun h28 => ?_) (fun h28 => ?_)
        · refine sf_iconst sf_c0 (fun z29 ez29 => ?_)
          refine sf_zreturn (by omega) rfl rfl ?_
          refine sf_f1_eq (fun h30 => ?_) (fun h30 => absurd h30 (by omega))
          refine sf_iconst sf_c1 (fun z31 ez31 => ?_)
          refine sf_puti hI0 hs0 rfl rfl (sf_bd _) rfl rfl rfl (fun w32 Iw32 sw32 kw32 uw32 => ?_)
          clear kw32
          refine sf_aload rfl ?_
          refine sf_geti Iw32 rfl rfl (fun v33 lv33 uv33 ev33 => ?_)
          rw [uw32] at ev33
          refine sf_f1_eq (fun h34 => absurd h34 (by omega)) (fun h34 => ?_)
          refine sf_vreturn rfl rfl ?_
          exact hR _ Iw32 sw32 (by rw [uw32]; omega)
        · refine sf_iconst sf_c1 (fun z35 ez35 => ?_)
          refine sf_zreturn (by omega) rfl rfl ?_
          refine sf_f1_eq (fun h36 => absurd h36 (by omega)) (fun h36 => ?_)
          refine sf_iconst sf_c0 (fun z37 ez37 => ?_)
          refine sf_puti hI0 hs0 rfl rfl (sf_bd _) rfl rfl rfl (fun w38 Iw38 sw38 kw38 uw38 => ?_)
          clear kw38
          refine sf_aload rfl ?_
          refine sf_geti Iw38 rfl rfl (fun v39 lv39 uv39 ev39 => ?_)
          rw [uw38] at ev39
          refine sf_f1_eq (fun h40 => ?_) (fun h40 => absurd h40 (by omega))
          refine sf_aload rfl ?_
          refine sf_getr Iw38 rfl rfl ?_
          refine sf_iload rfl ?_
          refine sf_iload rfl ?_
          refine sf_iast Iw38 sw38 rfl (by omega) (sf_bd _) rfl rfl (fun w41 Iw41 sw41 kw41 uw41 => ?_)
          have c42 := sf_mf kw41 (p := 71) (j := 0) rfl
          clear kw41 uw41
          refine sf_vreturn rfl rfl ?_
          exact hR _ Iw41 sw41 (by rw [c42, uw38]; omega)
def sm_M_rule : List Nat := [71, 73, 74, 8100]
set_option maxRecDepth 100000 in
set_option maxHeartbeats 4000000 in
theorem sc_M_rule {w0 : wq_W} (hI0 : sf_I w0) {rt : Option wq_V → wq_W → Prop} {xt : Nat → wq_W → Prop} {a_heading : Int32} {a_kind : Int32} {a_limit : Int32}  (hR : ∀ (w : wq_W), sf_I w → sf_m sm_M_rule w0 w → ((((sf_f w 71 0).toInt = 0 ∧ (0 ≤ a_heading.toInt ∧ a_heading.toInt < (sf_f w0 71 1).toInt ∧ 0 ≤ a_kind.toInt ∧ a_kind.toInt ≤ 1 ∧ 0 ≤ a_limit.toInt ∧ a_limit.toInt ≤ 1000)) ∨ ((sf_f w 71 0).toInt = 1 ∧ ¬ (0 ≤ a_heading.toInt ∧ a_heading.toInt < (sf_f w0 71 1).toInt ∧ 0 ≤ a_kind.toInt ∧ a_kind.toInt ≤ 1 ∧ 0 ≤ a_limit.toInt ∧ a_limit.toInt ≤ 1000)))) → rt none w) : ks_M_rule [.inl (.ref 71), .inl (.int a_heading), .inl (.int a_kind), .inl (.int a_limit)] w0 rt xt := by
  have hs0 : sf_m sm_M_rule w0 w0 := sf_m0
  refine sf_sp (L := [(0, .inl (.ref 71)), (1, .inl (.int a_heading)), (2, .inl (.int a_kind)), (3, .inl (.int a_limit))]) rfl rfl ?_
  refine sf_aload rfl ?_
  refine sf_aload rfl ?_
  refine sf_iload rfl ?_
  refine sf_call2 rfl rfl rfl ?_
  refine sf_rv hI0 rfl ?_
  refine sf_sp (L := [(0, .inl (.ref 71)), (1, .inl (.int a_heading))]) rfl rfl ?_
  refine sf_iload rfl ?_
  refine sf_f1_lt (fun h1 => ?_) (fun h1 => ?_)
  · refine sf_iconst sf_c0 (fun z2 ez2 => ?_)
    refine sf_zreturn (by omega) rfl rfl ?_
    refine sf_f1_eq (fun h3 => ?_) (fun h3 => absurd h3 (by omega))
    refine sf_iconst sf_c1 (fun z4 ez4 => ?_)
    refine sf_puti hI0 hs0 rfl rfl (sf_bd _) rfl rfl rfl (fun w5 Iw5 sw5 kw5 uw5 => ?_)
    clear kw5
    refine sf_aload rfl ?_
    refine sf_geti Iw5 rfl rfl (fun v6 lv6 uv6 ev6 => ?_)
    rw [uw5] at ev6
    refine sf_f1_eq (fun h7 => absurd h7 (by omega)) (fun h7 => ?_)
    refine sf_vreturn rfl rfl ?_
    exact hR _ Iw5 sw5 (by rw [uw5]; first | (refine Or.inl ⟨by omega, ?_⟩; omega) | (refine Or.inr ⟨by omega, ?_⟩; omega))
  · refine sf_iload rfl ?_
    refine sf_aload rfl ?_
    refine sf_geti hI0 rfl rfl (fun v8 lv8 uv8 ev8 => ?_)
    refine sf_f2_ge (fun h9 => ?_) (fun h9 => ?_)
    · refine sf_iconst sf_c0 (fun z10 ez10 => ?_)
      refine sf_zreturn (by omega) rfl rfl ?_
      refine sf_f1_eq (fun h11 => ?_) (fun h11 => absurd h11 (by omega))
      refine sf_iconst sf_c1 (fun z12 ez12 => ?_)
      refine sf_puti hI0 hs0 rfl rfl (sf_bd _) rfl rfl rfl (fun w13 Iw13 sw13 kw13 uw13 => ?_)
      clear kw13
      refine sf_aload rfl ?_
      refine sf_geti Iw13 rfl rfl (fun v14 lv14 uv14 ev14 => ?_)
      rw [uw13] at ev14
      refine sf_f1_eq (fun h15 => absurd h15 (by omega)) (fun h15 => ?_)
      refine sf_vreturn rfl rfl ?_
      exact hR _ Iw13 sw13 (by rw [uw13]; first | (refine Or.inl ⟨by omega, ?_⟩; omega) | (refine Or.inr ⟨by omega, ?_⟩; omega))
    · refine sf_iconst sf_c1 (fun z16 ez16 => ?_)
      refine sf_zreturn (by omega) rfl rfl ?_
      refine sf_f1_eq (fun h17 => absurd h17 (by omega)) (fun h17 => ?_)
      refine sf_iload rfl ?_
      refine sf_iconst sf_c0 (fun z18 ez18 => ?_)
      refine sf_iconst sf_c1 (fun z19 ez19 => ?_)
      refine sf_call3 rfl rfl rfl ?_
      refine sf_sp (L := [(0, .inl (.int a_kind)), (1, .inl (.int z18)), (2, .inl (.int z19))]) rfl rfl ?_
      refine sf_iload rfl ?_
      refine sf_iload rfl ?_
      refine sf_f2_lt (fun h20 => ?_) (fun h20 => ?_)
      · refine sf_iconst sf_c0 (fun z21 ez21 => ?_)
        refine sf_zreturn (by omega) rfl rfl ?_
        refine sf_f1_eq (fun h22 => ?_) (fun h22 => absurd h22 (by omega))
        refine sf_iconst sf_c1 (fun z23 ez23 => ?_)
        refine sf_puti hI0 hs0 rfl rfl (sf_bd _) rfl rfl rfl (fun w24 Iw24 sw24 kw24 uw24 => ?_)
        clear kw24
        refine sf_aload rfl ?_
        refine sf_geti Iw24 rfl rfl (fun v25 lv25 uv25 ev25 => ?_)
        rw [uw24] at ev25
        refine sf_f1_eq (fun h26 => absurd h26 (by omega)) (fun h26 => ?_)
        refine sf_vreturn rfl rfl ?_
        exact hR _ Iw24 sw24 (by rw [uw24]; first | (refine Or.inl ⟨by omega, ?_⟩; omega) | (refine Or.inr ⟨by omega, ?_⟩; omega))
      · refine sf_iload rfl ?_
        refine sf_iload rfl ?_
        refine sf_f2_gt (fun h27 => ?_) (fun h27 => ?_)
        · refine sf_iconst sf_c0 (fun z28 ez28 => ?_)
          refine sf_zreturn (by omega) rfl rfl ?_
          refine sf_f1_eq (fun h29 => ?_) (fun h29 => absurd h29 (by omega))
          refine sf_iconst sf_c1 (fun z30 ez30 => ?_)
          refine sf_puti hI0 hs0 rfl rfl (sf_bd _) rfl rfl rfl (fun w31 Iw31 sw31 kw31 uw31 => ?_)
          clear kw31
          refine sf_aload rfl ?_
          refine sf_geti Iw31 rfl rfl (fun v32 lv32 uv32 ev32 => ?_)
          rw [uw31] at ev32
          refine sf_f1_eq (fun h33 => absurd h33 (by omega)) (fun h33 => ?_)
          refine sf_vreturn rfl rfl ?_
          exact hR _ Iw31 sw31 (by rw [uw31]; first | (refine Or.inl ⟨by omega, ?_⟩; omega) | (refine Or.inr ⟨by omega, ?_⟩; omega))
        · refine sf_iconst sf_c1 (fun z34 ez34 => ?_)
          refine sf_zreturn (by omega) rfl rfl ?_
          refine sf_f1_eq (fun h35 => absurd h35 (by omega)) (fun h35 => ?_)
          refine sf_iload rfl ?_
          refine sf_iconst sf_c0 (fun z36 ez36 => ?_)
          refine sf_iconst sf_c1000 (fun z37 ez37 => ?_)
          refine sf_call3 rfl rfl rfl ?_
          refine sf_sp (L := [(0, .inl (.int a_limit)), (1, .inl (.int z36)), (2, .inl (.int z37))]) rfl rfl ?_
          refine sf_iload rfl ?_
          refine sf_iload rfl ?_
          refine sf_f2_lt (fun h38 => ?_) (fun h38 => ?_)
          · refine sf_iconst sf_c0 (fun z39 ez39 => ?_)
            refine sf_zreturn (by omega) rfl rfl ?_
            refine sf_f1_eq (fun h40 => ?_) (fun h40 => absurd h40 (by omega))
            refine sf_iconst sf_c1 (fun z41 ez41 => ?_)
            refine sf_puti hI0 hs0 rfl rfl (sf_bd _) rfl rfl rfl (fun w42 Iw42 sw42 kw42 uw42 => ?_)
            clear kw42
            refine sf_aload rfl ?_
            refine sf_geti Iw42 rfl rfl (fun v43 lv43 uv43 ev43 => ?_)
            rw [uw42] at ev43
            refine sf_f1_eq (fun h44 => absurd h44 (by omega)) (fun h44 => ?_)
            refine sf_vreturn rfl rfl ?_
            exact hR _ Iw42 sw42 (by rw [uw42]; first | (refine Or.inl ⟨by omega, ?_⟩; omega) | (refine Or.inr ⟨by omega, ?_⟩; omega))
          · refine sf_iload rfl ?_
            refine sf_iload rfl ?_
            refine sf_f2_gt (fun h45 => ?_) (fun h45 => ?_)
            · refine sf_iconst sf_c0 (fun z46 ez46 => ?_)
              refine sf_zreturn (by omega) rfl rfl ?_
              refine sf_f1_eq (fun h47 => ?_) (fun h47 => absurd h47 (by omega))
              refine sf_iconst sf_c1 (fun z48 ez48 => ?_)
              refine sf_puti hI0 hs0 rfl rfl (sf_bd _) rfl rfl rfl (fun w49 Iw49 sw49 kw49 uw49 => ?_)
              clear kw49
              refine sf_aload rfl ?_
              refine sf_geti Iw49 rfl rfl (fun v50 lv50 uv50 ev50 => ?_)
              rw [uw49] at ev50
              refine sf_f1_eq (fun h51 => absurd h51 (by omega)) (fun h51 => ?_)
              refine sf_vreturn rfl rfl ?_
              exact hR _ Iw49 sw49 (by rw [uw49]; first | (refine Or.inl ⟨by omega, ?_⟩; omega) | (refine Or.inr ⟨by omega, ?_⟩; omega))
            · refine sf_iconst sf_c1 (fun z52 ez52 => ?_)
              refine sf_zreturn (by omega) rfl rfl ?_
              refine sf_f1_eq (fun h53 => absurd h53 (by omega)) (fun h53 => ?_)
              refine sf_iconst sf_c0 (fun z54 ez54 => ?_)
              refine sf_puti hI0 hs0 rfl rfl (sf_bd _) rfl rfl rfl (fun w55 Iw55 sw55 kw55 uw55 => ?_)
              clear kw55
              refine sf_aload rfl ?_
              refine sf_geti Iw55 rfl rfl (fun v56 lv56 uv56 ev56 => ?_)
              rw [uw55] at ev56
              refine sf_f1_eq (fun h57 => ?_) (fun h57 => absurd h57 (by omega))
              refine sf_aload rfl ?_
              refine sf_getr Iw55 rfl rfl ?_
              refine sf_iload rfl ?_
              refine sf_iload rfl ?_
              refine sf_iastR Iw55 sw55 rfl (by omega) (sf_bd _) rfl (fun w9 h1 h2 => sf_R_rk Iw55 h1 h2 (Or.inl (by omega))) (fun w58 Iw58 sw58 kw58 uw58 => ?_)
              have c59 := sf_mf kw58 (p := 71) (j := 0) rfl
              clear kw58 uw58
              refine sf_aload rfl ?_
              refine sf_getr Iw58 rfl rfl ?_
              refine sf_iload rfl ?_
              refine sf_iload rfl ?_
              refine sf_iast Iw58 sw58 rfl (by omega) (sf_bd _) rfl rfl (fun w60 Iw60 sw60 kw60 uw60 => ?_)
              have c61 := sf_mf kw60 (p := 71) (j := 0) rfl
              clear kw60 uw60
              refine sf_vreturn rfl rfl ?_
              exact hR _ Iw60 sw60 (by rw [c61, c59, uw55]; first | (refine Or.inl ⟨by omega, ?_⟩; omega) | (refine Or.inr ⟨by omega, ?_⟩; omega))
