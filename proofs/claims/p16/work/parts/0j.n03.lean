def sm_M_zone : List Nat := [71, 98, 8100]
set_option maxRecDepth 100000 in
set_option maxHeartbeats 4000000 in
theorem sc_M_zone {w0 : wq_W} (hI0 : sf_I w0) {rt : Option wq_V → wq_W → Prop} {xt : Nat → wq_W → Prop} {a_z : Int32} {a_lands : Int32}  (hR : ∀ (w : wq_W), sf_I w → sf_m sm_M_zone w0 w → ((((sf_f w 71 0).toInt = 0 ∧ 0 ≤ a_z.toInt ∧ a_z.toInt < 4 ∧ 0 ≤ a_lands.toInt ∧ a_lands.toInt < 256) ∨ ((sf_f w 71 0).toInt = 1 ∧ ¬ (0 ≤ a_z.toInt ∧ a_z.toInt < 4 ∧ 0 ≤ a_lands.toInt ∧ a_lands.toInt < 256)))) → rt none w) : ks_M_zone [.inl (.ref 71), .inl (.int a_z), .inl (.int a_lands)] w0 rt xt := by
  have hs0 : sf_m sm_M_zone w0 w0 := sf_m0
  refine sf_sp (L := [(0, .inl (.ref 71)), (1, .inl (.int a_z)), (2, .inl (.int a_lands))]) rfl rfl ?_
  refine sf_aload rfl ?_
  refine sf_iload rfl ?_
  refine sf_iconst sf_c0 (fun z1 ez1 => ?_)
  refine sf_iconst sf_c3 (fun z2 ez2 => ?_)
  refine sf_call3 rfl rfl rfl ?_
  refine sf_sp (L := [(0, .inl (.int a_z)), (1, .inl (.int z1)), (2, .inl (.int z2))]) rfl rfl ?_
  refine sf_iload rfl ?_
  refine sf_iload rfl ?_
  refine sf_f2_lt (fun h3 => ?_) (fun h3 => ?_)
  · refine sf_iconst sf_c0 (fun z4 ez4 => ?_)
    refine sf_zreturn (by omega) rfl rfl ?_
    refine sf_f1_eq (fun h5 => ?_) (fun h5 => absurd h5 (by omega))
    refine sf_iconst sf_c1 (fun z6 ez6 => ?_)
    refine sf_puti hI0 hs0 rfl rfl (sf_bd _) rfl rfl rfl (fun w7 Iw7 sw7 kw7 uw7 => ?_)
    clear kw7
    refine sf_aload rfl ?_
    refine sf_geti Iw7 rfl rfl (fun v8 lv8 uv8 ev8 => ?_)
    rw [uw7] at ev8
    refine sf_f1_eq (fun h9 => absurd h9 (by omega)) (fun h9 => ?_)
    refine sf_vreturn rfl rfl ?_
    exact hR _ Iw7 sw7 (by rw [uw7]; omega)
  · refine sf_iload rfl ?_
    refine sf_iload rfl ?_
    refine sf_f2_gt (fun h10 => ?_) (fun h10 => ?_)
    · refine sf_iconst sf_c0 (fun z11 ez11 => ?_)
      refine sf_zreturn (by omega) rfl rfl ?_
      refine sf_f1_eq (fun h12 => ?_) (fun h12 => absurd h12 (by omega))
      refine sf_iconst sf_c1 (fun z13 ez13 => ?_)
      refine sf_puti hI0 hs0 rfl rfl (sf_bd _) rfl rfl rfl (fun w14 Iw14 sw14 kw14 uw14 => ?_)
      clear kw14
      refine sf_aload rfl ?_
      refine sf_geti Iw14 rfl rfl (fun v15 lv15 uv15 ev15 => ?_)
      rw [uw14] at ev15
      refine sf_f1_eq (fun h16 => absurd h16 (by omega)) (fun h16 => ?_)
      refine sf_vreturn rfl rfl ?_
      exact hR _ Iw14 sw14 (by rw [uw14]; omega)
    · refine sf_iconst sf_c1 (fun z17 ez17 => ?_)
      refine sf_zreturn (by omega) rfl rfl ?_
      refine sf_f1_eq (fun h18 => absurd h18 (by omega)) (fun h18 => ?_)
      refine sf_iload rfl ?_
      refine sf_iconst sf_c0 (fun z19 ez19 => ?_)
      refine sf_iconst sf_c255 (fun z20 ez20 => ?_)
      refine sf_call3 rfl rfl rfl ?_
      refine sf_sp (L := [(0, .inl (.int a_lands)), (1, .inl (.int z19)), (2, .inl (.int z20))]) rfl rfl ?_
      refine sf_iload rfl ?_
      refine sf_iload rfl ?_
      refine sf_f2_lt (fun h21 => ?_) (fun h21 => ?_)
      · refine sf_iconst sf_c0 (fun z22 ez22 => ?_)
        refine sf_zreturn (by omega) rfl rfl ?_
        refine sf_f1_eq (fun h23 => ?_) (fun h23 => absurd h23 (by omega))
        refine sf_iconst sf_c1 (fun z24 ez24 => ?_)
        refine sf_puti hI0 hs0 rfl rfl (sf_bd _) rfl rfl rfl (fun w25 Iw25 sw25 kw25 uw25 => ?_)
        clear kw25
        refine sf_aload rfl ?_
        refine sf_geti Iw25 rfl rfl (fun v26 lv26 uv26 ev26 => ?_)
        rw [uw25] at ev26
        refine sf_f1_eq (fun h27 => absurd h27 (by omega)) (fun h27 => ?_)
        refine sf_vreturn rfl rfl ?_
        exact hR _ Iw25 sw25 (by rw [uw25]; omega)
      · refine sf_iload rfl ?_
        refine sf_iload rfl ?_
        refine sf_f2_gt (fun h28 => ?_) (fun h28 => ?_)
        · refine sf_iconst sf_c0 (fun z29 ez29 => ?_)
          refine sf_zreturn (by omega) rfl rfl ?_
          refine sf_f1_eq (fun h30 => ?_) (fun h30 => absurd h30 (by omega))
          refine sf_iconst sf_c1 (fun z31 ez31 => ?_)
          refine sf_puti hI0 hs0 rfl rfl (sf_bd _) rfl rfl rfl (fun w32 Iw32 sw32 kw32 uw32 => ?_)
          clear kw32
          refine sf_aload rfl ?_
          refine sf_geti Iw32 rfl rfl (fun v33 lv33 uv33 ev33 => ?_)
          rw [uw32] at ev33
          refine sf_f1_eq (fun h34 => absurd h34 (by omega)) (fun h34 => ?_)
          refine sf_vreturn rfl rfl ?_
          exact hR _ Iw32 sw32 (by rw [uw32]; omega)
        · refine sf_iconst sf_c1 (fun z35 ez35 => ?_)
          refine sf_zreturn (by omega) rfl rfl ?_
          refine sf_f1_eq (fun h36 => absurd h36 (by omega)) (fun h36 => ?_)
          refine sf_iconst sf_c0 (fun z37 ez37 => ?_)
          refine sf_puti hI0 hs0 rfl rfl (sf_bd _) rfl rfl rfl (fun w38 Iw38 sw38 kw38 uw38 => ?_)
          clear kw38
          refine sf_aload rfl ?_
          refine sf_geti Iw38 rfl rfl (fun v39 lv39 uv39 ev39 => ?_)
          rw [uw38] at ev39
          refine sf_f1_eq (fun h40 => ?_) (fun h40 => absurd h40 (by omega))
          refine sf_aload rfl ?_
          refine sf_getr Iw38 rfl rfl ?_
          refine sf_iload rfl ?_
          refine sf_iload rfl ?_
          refine sf_iast Iw38 sw38 rfl (by omega) (sf_bd _) rfl rfl (fun w41 Iw41 sw41 kw41 uw41 => ?_)
          have c42 := sf_mf kw41 (p := 71) (j := 0) rfl
          clear kw41 uw41
          refine sf_vreturn rfl rfl ?_
          exact hR _ Iw41 sw41 (by rw [c42, uw38]; omega)
def sm_M_rule : List Nat := [71, 73, 74, 8100]
set_option maxRecDepth 100000 in
set_option maxHeartbeats 4000000 in
theorem sc_M_rule {w0 : wq_W} (hI0 : sf_I w0) {rt : Option wq_V → wq_W → Prop} {xt : Nat → wq_W → Prop} {a_heading : Int32} {a_kind : Int32} {a_limit : Int32}  (hR : ∀ (w : wq_W), sf_I w → sf_m sm_M_rule w0 w → ((((sf_f w 71 0).toInt = 0 ∧ (0 ≤ a_heading.toInt ∧ a_heading.toInt < (sf_f w0 71 1).toInt ∧ 0 ≤ a_kind.toInt ∧ a_kind.toInt ≤ 1 ∧ 0 ≤ a_limit.toInt ∧ a_limit.toInt ≤ 1000)) ∨ ((sf_f w 71 0).toInt = 1 ∧ ¬ (0 ≤ a_heading.toInt ∧ a_heading.toInt < (sf_f w0 71 1).toInt ∧ 0 ≤ a_kind.toInt ∧ a_kind.toInt ≤ 1 ∧ 0 ≤ a_limit.toInt ∧ a_limit.toInt ≤ 1000)))) → rt none w) : ks_M_rule [.inl (.ref 71), .inl (.int a_heading), .inl (.int a_kind), .inl (.int a_limit)] w0 rt xt := by
  have hs0 : sf_m sm_M_rule w0 w0 := sf_m0
  refine sf_sp (L := [(0, .inl (.ref 71)), (1, .inl (.int a_heading)), (2, .inl (.int a_kind)), (3, .inl (.int a_limit))]) rfl rfl ?_
  refine sf_aload rfl ?_
  refine sf_aload rfl ?_
  refine sf_iload rfl ?_
  refine sf_call2 rfl rfl rfl ?_
  refine sf_rv hI0 rfl ?_
  refine sf_sp (L := [(0, .inl (.ref 71)), (1, .inl (.int a_heading))]) rfl rfl ?_
  refine sf_iload rfl ?_
  refine sf_f1_lt (fun h1 => ?_) (fun h1 => ?_)
  · refine sf_iconst sf_c0 (fun z2 ez2 => ?_)
    refine sf_zreturn (by omega) rfl rfl ?_
    refine sf_f1_eq (fun h3 => ?_) (fun h3 => absurd h3 (by omega))
    refine sf_iconst sf_c1 (fun z4 ez4 => ?_)
    refine sf_puti hI0 hs0 rfl rfl (sf_bd _) rfl rfl rfl (fun w5 Iw5 sw5 kw5 uw5 => ?_)
    clear kw5
    refine sf_aload rfl ?_
    refine sf_geti Iw5 rfl rfl (fun v6 lv6 uv6 ev6 => ?_)
    rw [uw5] at ev6
    refine sf_f1_eq (fun h7 => absurd h7 (by omega)) (fun h7 => ?_)
    refine sf_vreturn rfl rfl ?_
    exact hR _ Iw5 sw5 (by rw [uw5]; first | (refine Or.inl ⟨by omega, ?_⟩; omega) | (refine Or.inr ⟨by omega, ?_⟩; omega))
  · refine sf_iload rfl ?_
    refine sf_aload rfl ?_
    refine sf_geti hI0 rfl rfl (fun v8 lv8 uv8 ev8 => ?_)
    refine sf_f2_ge (fun h9 => ?_) (fun h9 => ?_)
    · refine sf_iconst sf_c0 (fun z10 ez10 => ?_)
      refine sf_zreturn (by omega) rfl rfl ?_
      refine sf_f1_eq (fun h11 => ?_) (fun h11 => absurd h11 (by omega))
      refine sf_iconst sf_c1 (fun z12 ez12 => ?_)
      refine sf_puti hI0 hs0 rfl rfl (sf_bd _) rfl rfl rfl (fun w13 Iw13 sw13 kw13 uw13 => ?_)
      clear kw13
      refine sf_aload rfl ?_
      refine sf_geti Iw13 rfl rfl (fun v14 lv14 uv14 ev14 => ?_)
      rw [uw13] at ev14
      refine sf_f1_eq (fun h15 => absurd h15 (by omega)) (fun h15 => ?_)
      refine sf_vreturn rfl rfl ?_
      exact hR _ Iw13 sw13 (by rw [uw13]; first | (refine Or.inl ⟨by omega, ?_⟩; omega) | (refine Or.inr ⟨by omega, ?_⟩; omega))
    · refine sf_iconst sf_c1 (fun z16 ez16 => ?_)
      refine sf_zreturn (by omega) rfl rfl ?_
      refine sf_f1_eq (fun h17 => absurd h17 (by omega)) (fun h17 => ?_)
      refine sf_iload rfl ?_
      refine sf_iconst sf_c0 (fun z18 ez18 => ?_)
      refine sf_iconst sf_c1 (fun z19 ez19 => ?_)
      refine sf_call3 rfl rfl rfl ?_
      refine sf_sp (L := [(0, .inl (.int a_kind)), (1, .inl (.int z18)), (2, .inl (.int z19))]) rfl rfl ?_
      refine sf_iload rfl ?_
      refine sf_iload rfl ?_
      refine sf_f2_lt (fun h20 => ?_) (fun h20 => ?_)
      · refine sf_iconst sf_c0 (fun z21 ez21 => ?_)
        refine sf_zreturn (by omega) rfl rfl ?_
        refine sf_f1_eq (fun h22 => ?_) (fun h22 => absurd h22 (by omega))
        refine sf_iconst sf_c1 (fun z23 ez23 => ?_)
        refine sf_puti hI0 hs0 rfl rfl (sf_bd _) rfl rfl rfl (fun w24 Iw24 sw24 kw24 uw24 => ?_)
        clear kw24
        refine sf_aload rfl ?_
        refine sf_geti Iw24 rfl rfl (fun v25 lv25 uv25 ev25 => ?_)
        rw [uw24] at ev25
        refine sf_f1_eq (fun h26 => absurd h26 (by omega)) (fun h26 => ?_)
        refine sf_vreturn rfl rfl ?_
        exact hR _ Iw24 sw24 (by rw [uw24]; first | (refine Or.inl ⟨by omega, ?_⟩; omega) | (refine Or.inr ⟨by omega, ?_⟩; omega))
      · refine sf_iload rfl ?_
        refine sf_iload rfl ?_
        refine sf_f2_gt (fun h27 => ?_) (fun h27 => ?_)
        · refine sf_iconst sf_c0 (fun z28 ez28 => ?_)
          refine sf_zreturn (by omega) rfl rfl ?_
          refine sf_f1_eq (fun h29 => ?_) (fun h29 => absurd h29 (by omega))
          refine sf_iconst sf_c1 (fun z30 ez30 => ?_)
          refine sf_puti hI0 hs0 rfl rfl (sf_bd _) rfl rfl rfl (fun w31 Iw31 sw31 kw31 uw31 => ?_)
          clear kw31
          refine sf_aload rfl ?_
          refine sf_geti Iw31 rfl rfl (fun v32 lv32 uv32 ev32 => ?_)
          rw [uw31] at ev32
          refine sf_f1_eq (fun h33 => absurd h33 (by omega)) (fun h33 => ?_)
          refine sf_vreturn rfl rfl ?_
          exact hR _ Iw31 sw31 (by rw [uw31]; first | (refine Or.inl ⟨by omega, ?_⟩; omega) | (refine Or.inr ⟨by omega, ?_⟩; omega))
        · refine sf_iconst sf_c1 (fun z34 ez34 => ?_)
          refine sf_zreturn (by omega) rfl rfl ?_
          refine sf_f1_eq (fun h35 => absurd h35 (by omega)) (fun h35 => ?_)
          refine sf_iload rfl ?_
          refine sf_iconst sf_c0 (fun z36 ez36 => ?_)
          refine sf_iconst sf_c1000 (fun z37 ez37 => ?_)
          refine sf_call3 rfl rfl rfl ?_
          refine sf_sp (L := [(0, .inl (.int a_limit)), (1, .inl (.int z36)), (2, .inl (.int z37))]) rfl rfl ?_
          refine sf_iload rfl ?_
          refine sf_iload rfl ?_
          refine sf_f2_lt (fun h38 => ?_) (fun h38 => ?_)
          · refine sf_iconst sf_c0 (fun z39 ez39 => ?_)
            refine sf_zreturn (by omega) rfl rfl ?_
            refine sf_f1_eq (fun h40 => ?_) (fun h40 => absurd h40 (by omega))
            refine sf_iconst sf_c1 (fun z41 ez41 => ?_)
            refine sf_puti hI0 hs0 rfl rfl (sf_bd _) rfl rfl rfl (fun w42 Iw42 sw42 kw42 uw42 => ?_)
            clear kw42
            refine sf_aload rfl ?_
            refine sf_geti Iw42 rfl rfl (fun v43 lv43 uv43 ev43 => ?_)
            rw [uw42] at ev43
            refine sf_f1_eq (fun h44 => absurd h44 (by omega)) (fun h44 => ?_)
            refine sf_vreturn rfl rfl ?_
            exact hR _ Iw42 sw42 (by rw [uw42]; first | (refine Or.inl ⟨by omega, ?_⟩; omega) | (refine Or.inr ⟨by omega, ?_⟩; omega))
          · refine sf_iload rfl ?_
            refine sf_iload rfl ?_
            refine sf_f2_gt (fun h45 => ?_) (fun h45 => ?_)
            · refine sf_iconst sf_c0 (fun z46 ez46 => ?_)
              refine sf_zreturn (by omega) rfl rfl ?_
              refine sf_f1_eq (fun h47 => ?_) (fun h47 => absurd h47 (by omega))
              refine sf_iconst sf_c1 (fun z48 ez48 => ?_)
              refine sf_puti hI0 hs0 rfl rfl (sf_bd _) rfl rfl rfl (fun w49 Iw49 sw49 kw49 uw49 => ?_)
              clear kw49
              refine sf_aload rfl ?_
              refine sf_geti Iw49 rfl rfl (fun v50 lv50 uv50 ev50 => ?_)
              rw [uw49] at ev50
              refine sf_f1_eq (fun h51 => absurd h51 (by omega)) (fun h51 => ?_)
              refine sf_vreturn rfl rfl ?_
              exact hR _ Iw49 sw49 (by rw [uw49]; first | (refine Or.inl ⟨by omega, ?_⟩; omega) | (refine Or.inr ⟨by omega, ?_⟩; omega))
            · refine sf_iconst sf_c1 (fun z52 ez52 => ?_)
              refine sf_zreturn (by omega) rfl rfl ?_
              refine sf_f1_eq (fun h53 => absurd h53 (by omega)) (fun h53 => ?_)
              refine sf_iconst sf_c0 (fun z54 ez54 => ?_)
              refine sf_puti hI0 hs0 rfl rfl (sf_bd _) rfl rfl rfl (fun w55 Iw55 sw55 kw55 uw55 => ?_)
              clear kw55
              refine sf_aload rfl ?_
              refine sf_geti Iw55 rfl rfl (fun v56 lv56 uv56 ev56 => ?_)
              rw [uw55] at ev56
              refine sf_f1_eq (fun h57 => ?_) (fun h57 => absurd h57 (by omega))
              refine sf_aload rfl ?_
              refine sf_getr Iw55 rfl rfl ?_
              refine sf_iload rfl ?_
              refine sf_iload rfl ?_
              refine sf_iastR Iw55 sw55 rfl (by omega) (sf_bd _) rfl (fun w9 h1 h2 => sf_R_rk Iw55 h1 h2 (Or.inl (by omega))) (fun w58 Iw58 sw58 kw58 uw58 => ?_)
              have c59 := sf_mf kw58 (p := 71) (j := 0) rfl
              clear kw58 uw58
              refine sf_aload rfl ?_
              refine sf_getr Iw58 rfl rfl ?_
              refine sf_iload rfl ?_
              refine sf_iload rfl ?_
              refine sf_iast Iw58 sw58 rfl (by omega) (sf_bd _) rfl rfl (fun w60 Iw60 sw60 kw60 uw60 => ?_)
              have c61 := sf_mf kw60 (p := 71) (j := 0) rfl
              clear kw60 uw60
              refine sf_vreturn rfl rfl ?_
              exact hR _ Iw60 sw60 (by rw [c61, c59, uw55]; first | (refine Or.inl ⟨by omega, ?_⟩; omega) | (refine Or.inr ⟨by omega, ?_⟩; omega))
def sm_M_madeIn : List Nat := [71, 99, 100, 101, 8100]
set_option maxRecDepth 100000 in
set_option maxHeartbeats 4000000 in
theorem sc_M_madeIn {w0 : wq_W} (hI0 : sf_I w0) {rt : Option wq_V → wq_W → Prop} {xt : Nat → wq_W → Prop} {a_good : Int32} {a_z : Int32}  (hR : ∀ (r : Int32) (w : wq_W), sf_I w → sf_m sm_M_madeIn w0 w → 0 ≤ r.toInt → r.toInt ≤ 1 → rt (some (.inl (.int r))) w) : ks_M_madeIn [.inl (.ref 71), .inl (.int a_good), .inl (.int a_z)] w0 rt xt := by
  have hs0 : sf_m sm_M_madeIn w0 w0 := sf_m0
  have hl : ∀ n : Nat, (∀ (w : wq_W) (x3 : Int32), (sf_I w) → (sf_m sm_M_madeIn w0 w) → (0 ≤ x3.toInt) → (x3.toInt ≤ 16) → (0 ≤ a_good.toInt ∧ a_good.toInt ≤ 15 ∧ 0 ≤ a_z.toInt ∧ a_z.toInt ≤ 3) → (10000 - x3.toInt < (n : Int)) → ku_M_madeIn rt xt n 39 [(0, .inl (.ref 71)), (1, .inl (.int a_good)), (2, .inl (.int a_z)), (3, .inl (.int x3))] [] w 0 0) ∧ (∀ (w : wq_W) (x3 : Int32), (sf_I w) → (sf_m sm_M_madeIn w0 w) → (0 ≤ x3.toInt) → (x3.toInt ≤ 16) → (0 ≤ a_good.toInt ∧ a_good.toInt ≤ 15 ∧ 0 ≤ a_z.toInt ∧ a_z.toInt ≤ 3) → ((16 - x3.toInt) * 400 + 399 < (n : Int)) → ku_M_madeIn rt xt n 71 [(0, .inl (.ref 71)), (1, .inl (.int a_good)), (2, .inl (.int a_z)), (3, .inl (.int x3))] [] w 0 0) ∧ (∀ (w : wq_W) (x3 : Int32) (x4 : Int32), (sf_I w) → (sf_m sm_M_madeIn w0 w) → (0 ≤ x3.toInt) → (x3.toInt ≤ 15) → (0 ≤ x4.toInt) → (x4.toInt ≤ 16) → (0 ≤ a_good.toInt ∧ a_good.toInt ≤ 15 ∧ 0 ≤ a_z.toInt ∧ a_z.toInt ≤ 3) → ((16 - x3.toInt) * 400 + (16 - x4.toInt) * 10 + 6 < (n : Int)) → ku_M_madeIn rt xt n 80 [(0, .inl (.ref 71)), (1, .inl (.int a_good)), (2, .inl (.int a_z)), (3, .inl (.int x3)), (4, .inl (.int x4))] [] w 0 0) ∧ (∀ (w : wq_W) (x3 : Int32) (x4 : Int32) (x5 : Int32) (x6 : Int32), (sf_I w) → (sf_m sm_M_madeIn w0 w) → (0 ≤ x3.toInt) → (x3.toInt ≤ 15) → (0 ≤ x4.toInt) → (x4.toInt ≤ 15) → (0 ≤ x5.toInt) → (x5.toInt ≤ 1) → (0 ≤ x6.toInt) → (x6.toInt ≤ 80) → (x6.toInt ≤ 5 * x4.toInt + 5) → (0 ≤ a_good.toInt ∧ a_good.toInt ≤ 15 ∧ 0 ≤ a_z.toInt ∧ a_z.toInt ≤ 3) → ((16 - x3.toInt) * 400 + (16 - x4.toInt) * 10 + 5 * x4.toInt + 5 - x6.toInt < (n : Int)) → ku_M_madeIn rt xt n 110 [(0, .inl (.ref 71)), (1, .inl (.int a_good)), (2, .inl (.int a_z)), (3, .inl (.int x3)), (4, .inl (.int x4)), (5, .inl (.int x5)), (6, .inl (.int x6))] [] w 0 0) := by
    intro n
    induction n with
    | zero =>
      refine ⟨?_, ?_, ?_, ?_⟩
      · intros; omega
      · intros; omega
      · intros; omega
      · intros; omega
    | succ n ih =>
      obtain ⟨i_39, i_71, i_80, i_110⟩ := ih
      refine ⟨?_, ?_, ?_, ?_⟩
      · intro w x3 I_w s_w l_x3 u_x3 f_0 hm
        show kh_M_madeIn_39 rt xt (ku_M_madeIn rt xt n) [(0, .inl (.ref 71)), (1, .inl (.int a_good)), (2, .inl (.int a_z)), (3, .inl (.int x3))] [] w 0 0
        generalize ku_M_madeIn rt xt n = K at i_39 i_71 i_80 i_110 ⊢
        refine sf_iload rfl ?_
        refine sf_iconst sf_c16 (fun z1 ez1 => ?_)
        refine sf_f2_ge (fun h2 => ?_) (fun h2 => ?_)
        · refine sf_iconst sf_c0 (fun z3 ez3 => ?_)
          refine sf_istore (L' := [(0, .inl (.ref 71)), (1, .inl (.int a_good)), (2, .inl (.int a_z))]) rfl ?_
          refine sf_can (L' := [(0, .inl (.ref 71)), (1, .inl (.int a_good)), (2, .inl (.int a_z)), (3, .inl (.int z3))]) rfl ?_
          exact i_71 w z3 I_w s_w (by omega) (by omega) (by omega) (by omega)
        · refine sf_aload rfl ?_
          refine sf_getr I_w rfl rfl ?_
          refine sf_iload rfl ?_
          refine sf_iconst sf_c0 (fun z4 ez4 => ?_)
          refine sf_zast I_w s_w rfl (by omega) (by omega) rfl rfl (fun w5 Iw5 sw5 kw5 uw5 => ?_)
          have c6 := sf_mf kw5 (p := 71) (j := 0) rfl
          clear kw5 uw5
          refine sf_aload rfl ?_
          refine sf_getr Iw5 rfl rfl ?_
          refine sf_iload rfl ?_
          refine sf_aload rfl ?_
          refine sf_iload rfl ?_
          refine sf_call2 rfl rfl rfl ?_
          refine sf_rv Iw5 rfl ?_
          refine sc_M_classOf Iw5 (by omega) (by omega) (fun v7 lv7 uv7 q8_0 => ?_)
          rw [sf_mf sw5 (p := 71) (j := 1) rfl] at q8_0
          refine sf_iast Iw5 sw5 rfl (by omega) (by omega) rfl rfl (fun w9 Iw9 sw9 kw9 uw9 => ?_)
          have c10 := sf_mf kw9 (p := 71) (j := 0) rfl
          clear kw9 uw9
          refine sf_iinc (L' := [(0, .inl (.ref 71)), (1, .inl (.int a_good)), (2, .inl (.int a_z))]) sf_c1 rfl rfl (by omega) (fun v11 ev11 => ?_)
          refine sf_can (L' := [(0, .inl (.ref 71)), (1, .inl (.int a_good)), (2, .inl (.int a_z)), (3, .inl (.int v11))]) rfl ?_
          exact i_39 w9 v11 Iw9 sw9 (by omega) (by omega) (by omega) (by omega)
      · intro w x3 I_w s_w l_x3 u_x3 f_0 hm
        show kh_M_madeIn_71 rt xt (ku_M_madeIn rt xt n) [(0, .inl (.ref 71)), (1, .inl (.int a_good)), (2, .inl (.int a_z)), (3, .inl (.int x3))] [] w 0 0
        generalize ku_M_madeIn rt xt n = K at i_39 i_71 i_80 i_110 ⊢
        refine sf_iload rfl ?_
        refine sf_iconst sf_c16 (fun z12 ez12 => ?_)
        refine sf_f2_ge (fun h13 => ?_) (fun h13 => ?_)
        · refine sf_aload rfl ?_
          refine sf_getr I_w rfl rfl ?_
          refine sf_iload rfl ?_
          refine sf_zald I_w rfl (by omega) (fun v14 lv14 uv14 ev14 => ?_)
          clear ev14
          refine sf_zreturn (by omega) rfl rfl ?_
          exact hR _ _ I_w s_w (by omega) (by omega) 
        · refine sf_iconst sf_c0 (fun z15 ez15 => ?_)
          refine sf_istore (L' := [(0, .inl (.ref 71)), (1, .inl (.int a_good)), (2, .inl (.int a_z)), (3, .inl (.int x3))]) rfl ?_
          refine sf_can (L' := [(0, .inl (.ref 71)), (1, .inl (.int a_good)), (2, .inl (.int a_z)), (3, .inl (.int x3)), (4, .inl (.int z15))]) rfl ?_
          exact i_80 w x3 z15 I_w s_w (by omega) (by omega) (by omega) (by omega) (by omega) (by omega)
      · intro w x3 x4 I_w s_w l_x3 u_x3 l_x4 u_x4 f_0 hm
        show kh_M_madeIn_80 rt xt (ku_M_madeIn rt xt n) [(0, .inl (.ref 71)), (1, .inl (.int a_good)), (2, .inl (.int a_z)), (3, .inl (.int x3)), (4, .inl (.int x4))] [] w 0 0
        generalize ku_M_madeIn rt xt n = K at i_39 i_71 i_80 i_110 ⊢
        refine sf_iload rfl ?_
        refine sf_iconst sf_c16 (fun z16 ez16 => ?_)
        refine sf_f2_ge (fun h17 => ?_) (fun h17 => ?_)
        · refine sf_iinc (L' := [(0, .inl (.ref 71)), (1, .inl (.int a_good)), (2, .inl (.int a_z)), (4, .inl (.int x4))]) sf_c1 rfl rfl (by omega) (fun v18 ev18 => ?_)
          refine sf_can (L' := [(0, .inl (.ref 71)), (1, .inl (.int a_good)), (2, .inl (.int a_z)), (3, .inl (.int v18))]) rfl ?_
          exact i_71 w v18 I_w s_w (by omega) (by omega) (by omega) (by omega)
        · refine sf_aload rfl ?_
          refine sf_getr I_w rfl rfl ?_
          refine sf_iload rfl ?_
          refine sf_zald I_w rfl (by omega) (fun v19 lv19 uv19 ev19 => ?_)
          clear ev19
          refine sf_f1_eq (fun h20 => ?_) (fun h20 => ?_)
          · refine sf_iconst sf_c1 (fun z21 ez21 => ?_)
            refine sf_istore (L' := [(0, .inl (.ref 71)), (1, .inl (.int a_good)), (2, .inl (.int a_z)), (3, .inl (.int x3)), (4, .inl (.int x4))]) rfl ?_
            refine sf_iconst sf_c5 (fun z22 ez22 => ?_)
            refine sf_iload rfl ?_
            refine sf_imull (n := 5) (by omega) (by omega) (fun v23 ev23 => ?_)
            refine sf_istore (L' := [(5, .inl (.int z21)), (0, .inl (.ref 71)), (1, .inl (.int a_good)), (2, .inl (.int a_z)), (3, .inl (.int x3)), (4, .inl (.int x4))]) rfl ?_
            refine sf_can (L' := [(0, .inl (.ref 71)), (1, .inl (.int a_good)), (2, .inl (.int a_z)), (3, .inl (.int x3)), (4, .inl (.int x4)), (5, .inl (.int z21)), (6, .inl (.int v23))]) rfl ?_
            exact i_110 w x3 x4 z21 v23 I_w s_w (by omega) (by omega) (by omega) (by omega) (by omega) (by omega) (by omega) (by omega) (by omega) (by omega) (by omega)
          · refine sf_iconst sf_c0 (fun z24 ez24 => ?_)
            refine sf_istore (L' := [(0, .inl (.ref 71)), (1, .inl (.int a_good)), (2, .inl (.int a_z)), (3, .inl (.int x3)), (4, .inl (.int x4))]) rfl ?_
            refine sf_iconst sf_c5 (fun z25 ez25 => ?_)
            refine sf_iload rfl ?_
            refine sf_imull (n := 5) (by omega) (by omega) (fun v26 ev26 => ?_)
            refine sf_istore (L' := [(5, .inl (.int z24)), (0, .inl (.ref 71)), (1, .inl (.int a_good)), (2, .inl (.int a_z)), (3, .inl (.int x3)), (4, .inl (.int x4))]) rfl ?_
            refine sf_can (L' := [(0, .inl (.ref 71)), (1, .inl (.int a_good)), (2, .inl (.int a_z)), (3, .inl (.int x3)), (4, .inl (.int x4)), (5, .inl (.int z24)), (6, .inl (.int v26))]) rfl ?_
            exact i_110 w x3 x4 z24 v26 I_w s_w (by omega) (by omega) (by omega) (by omega) (by omega) (by omega) (by omega) (by omega) (by omega) (by omega) (by omega)
      · intro w x3 x4 x5 x6 I_w s_w l_x3 u_x3 l_x4 u_x4 l_x5 u_x5 l_x6 u_x6 f_0 f_1 hm
        show kh_M_madeIn_110 rt xt (ku_M_madeIn rt xt n) [(0, .inl (.ref 71)), (1, .inl (.int a_good)), (2, .inl (.int a_z)), (3, .inl (.int x3)), (4, .inl (.int x4)), (5, .inl (.int x5)), (6, .inl (.int x6))] [] w 0 0
        generalize ku_M_madeIn rt xt n = K at i_39 i_71 i_80 i_110 ⊢
        refine sf_iload rfl ?_
        refine sf_iconst sf_c5 (fun z27 ez27 => ?_)
        refine sf_iload rfl ?_
        refine sf_imull (n := 5) (by omega) (by omega) (fun v28 ev28 => ?_)
        refine sf_aload rfl ?_
        refine sf_getr I_w rfl rfl ?_
        refine sf_iload rfl ?_
        refine sf_iald I_w rfl (by omega) (fun v29 lv29 uv29 ev29 => ?_)
        rw [sf_ma s_w (p := 94) rfl] at ev29
        refine sf_iadd (by omega) (fun v30 ev30 => ?_)
        refine sf_f2_ge (fun h31 => ?_) (fun h31 => ?_)
        · refine sf_iload rfl ?_
          refine sf_f1_eq (fun h32 => ?_) (fun h32 => ?_)
          · refine sf_iinc (L' := [(0, .inl (.ref 71)), (1, .inl (.int a_good)), (2, .inl (.int a_z)), (3, .inl (.int x3)), (5, .inl (.int x5)), (6, .inl (.int x6))]) sf_c1 rfl rfl (by omega) (fun v33 ev33 => ?_)
            refine sf_can (L' := [(0, .inl (.ref 71)), (1, .inl (.int a_good)), (2, .inl (.int a_z)), (3, .inl (.int x3)), (4, .inl (.int v33))]) rfl ?_
            exact i_80 w x3 v33 I_w s_w (by omega) (by omega) (by omega) (by omega) (by omega) (by omega)
          · refine sf_aload rfl ?_
            refine sf_getr I_w rfl rfl ?_
            refine sf_iload rfl ?_
            refine sf_aload rfl ?_
            refine sf_iload rfl ?_
            refine sf_aload rfl ?_
            refine sf_getr I_w rfl rfl ?_
            refine sf_iload rfl ?_
            refine sf_iald I_w rfl (by omega) (fun v34 lv34 uv34 ev34 => ?_)
            clear lv34 uv34
            clear ev34
            refine sf_call3 rfl rfl rfl ?_
            refine sf_rv I_w rfl ?_
            refine sc_M_isMade I_w (by omega) (by omega) (fun v35 lv35 uv35 => ?_)
            refine sf_zast I_w s_w rfl (by omega) (by omega) rfl rfl (fun w37 Iw37 sw37 kw37 uw37 => ?_)
            have c38 := sf_mf kw37 (p := 71) (j := 0) rfl
            clear kw37 uw37
            refine sf_aload rfl ?_
            refine sf_getr Iw37 rfl rfl ?_
            refine sf_iload rfl ?_
            refine sf_iconst sf_c1 (fun z39 ez39 => ?_)
            refine sf_zast Iw37 sw37 rfl (by omega) (by omega) rfl rfl (fun w40 Iw40 sw40 kw40 uw40 => ?_)
            have c41 := sf_mf kw40 (p := 71) (j := 0) rfl
            clear kw40 uw40
            refine sf_iinc (L' := [(0, .inl (.ref 71)), (1, .inl (.int a_good)), (2, .inl (.int a_z)), (3, .inl (.int x3)), (5, .inl (.int x5)), (6, .inl (.int x6))]) sf_c1 rfl rfl (by omega) (fun v42 ev42 => ?_)
            refine sf_can (L' := [(0, .inl (.ref 71)), (1, .inl (.int a_good)), (2, .inl (.int a_z)), (3, .inl (.int x3)), (4, .inl (.int v42))]) rfl ?_
            exact i_80 w40 x3 v42 Iw40 sw40 (by omega) (by omega) (by omega) (by omega) (by omega) (by omega)
        · refine sf_iload rfl ?_
          refine sf_f1_eq (fun h43 => ?_) (fun h43 => ?_)
          · refine sf_iconst sf_c0 (fun z44 ez44 => ?_)
            refine sf_istore (L' := [(0, .inl (.ref 71)), (1, .inl (.int a_good)), (2, .inl (.int a_z)), (3, .inl (.int x3)), (4, .inl (.int x4)), (6, .inl (.int x6))]) rfl ?_
            refine sf_iinc (L' := [(5, .inl (.int z44)), (0, .inl (.ref 71)), (1, .inl (.int a_good)), (2, .inl (.int a_z)), (3, .inl (.int x3)), (4, .inl (.int x4))]) sf_c1 rfl rfl (by omega) (fun v45 ev45 => ?_)
            refine sf_can (L' := [(0, .inl (.ref 71)), (1, .inl (.int a_good)), (2, .inl (.int a_z)), (3, .inl (.int x3)), (4, .inl (.int x4)), (5, .inl (.int z44)), (6, .inl (.int v45))]) rfl ?_
            exact i_110 w x3 x4 z44 v45 I_w s_w (by omega) (by omega) (by omega) (by omega) (by omega) (by omega) (by omega) (by omega) (by omega) (by omega) (by omega)
          · refine sf_aload rfl ?_
            refine sf_getr I_w rfl rfl ?_
            refine sf_aload rfl ?_
            refine sf_getr I_w rfl rfl ?_
            refine sf_iload rfl ?_
            refine sf_iald I_w rfl (by omega) (fun v46 lv46 uv46 ev46 => ?_)
            clear ev46
            refine sf_zald I_w rfl (by omega) (fun v47 lv47 uv47 ev47 => ?_)
            clear ev47
            refine sf_f1_eq (fun h48 => ?_) (fun h48 => ?_)
            · refine sf_iconst sf_c0 (fun z49 ez49 => ?_)
              refine sf_istore (L' := [(0, .inl (.ref 71)), (1, .inl (.int a_good)), (2, .inl (.int a_z)), (3, .inl (.int x3)), (4, .inl (.int x4)), (6, .inl (.int x6))]) rfl ?_
              refine sf_iinc (L' := [(5, .inl (.int z49)), (0, .inl (.ref 71)), (1, .inl (.int a_good)), (2, .inl (.int a_z)), (3, .inl (.int x3)), (4, .inl (.int x4))]) sf_c1 rfl rfl (by omega) (fun v50 ev50 => ?_)
              refine sf_can (L' := [(0, .inl (.ref 71)), (1, .inl (.int a_good)), (2, .inl (.int a_z)), (3, .inl (.int x3)), (4, .inl (.int x4)), (5, .inl (.int z49)), (6, .inl (.int v50))]) rfl ?_
              exact i_110 w x3 x4 z49 v50 I_w s_w (by omega) (by omega) (by omega) (by omega) (by omega) (by omega) (by omega) (by omega) (by omega) (by omega) (by omega)
            · refine sf_iconst sf_c1 (fun z51 ez51 => ?_)
              refine sf_istore (L' := [(0, .inl (.ref 71)), (1, .inl (.int a_good)), (2, .inl (.int a_z)), (3, .inl (.int x3)), (4, .inl (.int x4)), (6, .inl (.int x6))]) rfl ?_
              refine sf_iinc (L' := [(5, .inl (.int z51)), (0, .inl (.ref 71)), (1, .inl (.int a_good)), (2, .inl (.int a_z)), (3, .inl (.int x3)), (4, .inl (.int x4))]) sf_c1 rfl rfl (by omega) (fun v52 ev52 => ?_)
              refine sf_can (L' := [(0, .inl (.ref 71)), (1, .inl (.int a_good)), (2, .inl (.int a_z)), (3, .inl (.int x3)), (4, .inl (.int x4)), (5, .inl (.int z51)), (6, .inl (.int v52))]) rfl ?_
              exact i_110 w x3 x4 z51 v52 I_w s_w (by omega) (by omega) (by omega) (by omega) (by omega) (by omega) (by omega) (by omega) (by omega) (by omega) (by omega)
  have hl1 := hl 1000000000000
  obtain ⟨i_39, i_71, i_80, i_110⟩ := hl1
  clear hl
  refine sf_sp (L := [(0, .inl (.ref 71)), (1, .inl (.int a_good)), (2, .inl (.int a_z))]) rfl rfl ?_
  generalize ku_M_madeIn rt xt 1000000000000 = K at i_39 i_71 i_80 i_110 ⊢
  refine sf_aload rfl ?_
  refine sf_iload rfl ?_
  refine sf_iconst sf_c0 (fun z53 ez53 => ?_)
  refine sf_iconst sf_c15 (fun z54 ez54 => ?_)
  refine sf_call3 rfl rfl rfl ?_
  refine sf_sp (L := [(0, .inl (.int a_good)), (1, .inl (.int z53)), (2, .inl (.int z54))]) rfl rfl ?_
  refine sf_iload rfl ?_
  refine sf_iload rfl ?_
  refine sf_f2_lt (fun h55 => ?_) (fun h55 => ?_)
  · refine sf_iconst sf_c0 (fun z56 ez56 => ?_)
    refine sf_zreturn (by omega) rfl rfl ?_
    refine sf_f1_eq (fun h57 => ?_) (fun h57 => absurd h57 (by omega))
    refine sf_iconst sf_c1 (fun z58 ez58 => ?_)
    refine sf_puti hI0 hs0 rfl rfl (sf_bd _) rfl rfl rfl (fun w59 Iw59 sw59 kw59 uw59 => ?_)
    clear kw59
    refine sf_aload rfl ?_
    refine sf_geti Iw59 rfl rfl (fun v60 lv60 uv60 ev60 => ?_)
    rw [uw59] at ev60
    refine sf_f1_le (fun h61 => absurd h61 (by omega)) (fun h61 => ?_)
    refine sf_iconst sf_c0 (fun z62 ez62 => ?_)
    refine sf_zreturn (by omega) rfl rfl ?_
    exact hR _ _ Iw59 sw59 (by omega) (by omega) 
  · refine sf_iload rfl ?_
    refine sf_iload rfl ?_
    refine sf_f2_gt (fun h63 => ?_) (fun h63 => ?_)
    · refine sf_iconst sf_c0 (fun z64 ez64 => ?_)
      refine sf_zreturn (by omega) rfl rfl ?_
      refine sf_f1_eq (fun h65 => ?_) (fun h65 => absurd h65 (by omega))
      refine sf_iconst sf_c1 (fun z66 ez66 => ?_)
      refine sf_puti hI0 hs0 rfl rfl (sf_bd _) rfl rfl rfl (fun w67 Iw67 sw67 kw67 uw67 => ?_)
      clear kw67
      refine sf_aload rfl ?_
      refine sf_geti Iw67 rfl rfl (fun v68 lv68 uv68 ev68 => ?_)
      rw [uw67] at ev68
      refine sf_f1_le (fun h69 => absurd h69 (by omega)) (fun h69 => ?_)
      refine sf_iconst sf_c0 (fun z70 ez70 => ?_)
      refine sf_zreturn (by omega) rfl rfl ?_
      exact hR _ _ Iw67 sw67 (by omega) (by omega) 
    · refine sf_iconst sf_c1 (fun z71 ez71 => ?_)
      refine sf_zreturn (by omega) rfl rfl ?_
      refine sf_f1_eq (fun h72 => absurd h72 (by omega)) (fun h72 => ?_)
      refine sf_iload rfl ?_
      refine sf_iconst sf_c0 (fun z73 ez73 => ?_)
      refine sf_iconst sf_c3 (fun z74 ez74 => ?_)
      refine sf_call3 rfl rfl rfl ?_
      refine sf_sp (L := [(0, .inl (.int a_z)), (1, .inl (.int z73)), (2, .inl (.int z74))]) rfl rfl ?_
      refine sf_iload rfl ?_
      refine sf_iload rfl ?_
      refine sf_f2_lt (fun h75 => ?_) (fun h75 => ?_)
      · refine sf_iconst sf_c0 (fun z76 ez76 => ?_)
        refine sf_zreturn (by omega) rfl rfl ?_
        refine sf_f1_eq (fun h77 => ?_) (fun h77 => absurd h77 (by omega))
        refine sf_iconst sf_c1 (fun z78 ez78 => ?_)
        refine sf_puti hI0 hs0 rfl rfl (sf_bd _) rfl rfl rfl (fun w79 Iw79 sw79 kw79 uw79 => ?_)
        clear kw79
        refine sf_aload rfl ?_
        refine sf_geti Iw79 rfl rfl (fun v80 lv80 uv80 ev80 => ?_)
        rw [uw79] at ev80
        refine sf_f1_le (fun h81 => absurd h81 (by omega)) (fun h81 => ?_)
        refine sf_iconst sf_c0 (fun z82 ez82 => ?_)
        refine sf_zreturn (by omega) rfl rfl ?_
        exact hR _ _ Iw79 sw79 (by omega) (by omega) 
      · refine sf_iload rfl ?_
        refine sf_iload rfl ?_
        refine sf_f2_gt (fun h83 => ?_) (fun h83 => ?_)
        · refine sf_iconst sf_c0 (fun z84 ez84 => ?_)
          refine sf_zreturn (by omega) rfl rfl ?_
          refine sf_f1_eq (fun h85 => ?_) (fun h85 => absurd h85 (by omega))
          refine sf_iconst sf_c1 (fun z86 ez86 => ?_)
          refine sf_puti hI0 hs0 rfl rfl (sf_bd _) rfl rfl rfl (fun w87 Iw87 sw87 kw87 uw87 => ?_)
          clear kw87
          refine sf_aload rfl ?_
          refine sf_geti Iw87 rfl rfl (fun v88 lv88 uv88 ev88 => ?_)
          rw [uw87] at ev88
          refine sf_f1_le (fun h89 => absurd h89 (by omega)) (fun h89 => ?_)
          refine sf_iconst sf_c0 (fun z90 ez90 => ?_)
          refine sf_zreturn (by omega) rfl rfl ?_
          exact hR _ _ Iw87 sw87 (by omega) (by omega) 
        · refine sf_iconst sf_c1 (fun z91 ez91 => ?_)
          refine sf_zreturn (by omega) rfl rfl ?_
          refine sf_f1_eq (fun h92 => absurd h92 (by omega)) (fun h92 => ?_)
          refine sf_iconst sf_c0 (fun z93 ez93 => ?_)
          refine sf_puti hI0 hs0 rfl rfl (sf_bd _) rfl rfl rfl (fun w94 Iw94 sw94 kw94 uw94 => ?_)
          clear kw94
          refine sf_aload rfl ?_
          refine sf_geti Iw94 rfl rfl (fun v95 lv95 uv95 ev95 => ?_)
          rw [uw94] at ev95
          refine sf_f1_le (fun h96 => ?_) (fun h96 => absurd h96 (by omega))
          refine sf_iconst sf_c0 (fun z97 ez97 => ?_)
          refine sf_istore (L' := [(0, .inl (.ref 71)), (1, .inl (.int a_good)), (2, .inl (.int a_z))]) rfl ?_
          refine sf_can (L' := [(0, .inl (.ref 71)), (1, .inl (.int a_good)), (2, .inl (.int a_z)), (3, .inl (.int z97))]) rfl ?_
          exact i_39 w94 z97 Iw94 sw94 (by omega) (by omega) (by omega) (by omega)
def sm_M_declare : List Nat := [71, 102, 103, 8100, 8135]
set_option maxRecDepth 100000 in
set_option maxHeartbeats 4000000 in
theorem sc_M_declare {w0 : wq_W} (hI0 : sf_I w0) {rt : Option wq_V → wq_W → Prop} {xt : Nat → wq_W → Prop} {a_when : Int32} {a_clock : Int32}  (hR : ∀ (r : Int32) (w : wq_W), sf_I w → sf_m sm_M_declare w0 w → 0 ≤ r.toInt → r.toInt ≤ 12 → ((((sf_f w 71 0).toInt = 0 ∧ (0 ≤ a_when.toInt ∧ a_when.toInt ≤ 9999 ∧ 0 ≤ a_clock.toInt ∧ a_clock.toInt ≤ 1439) ∧ ((sf_f w0 71 35).toInt < 12) ∧ (sf_f w 71 35).toInt = (sf_f w0 71 35).toInt + 1 ∧ r.toInt = (sf_f w0 71 35).toInt) ∨ ((sf_f w 71 0).toInt = 1 ∧ ¬ (0 ≤ a_when.toInt ∧ a_when.toInt ≤ 9999 ∧ 0 ≤ a_clock.toInt ∧ a_clock.toInt ≤ 1439) ∧ (sf_f w 71 35).toInt = (sf_f w0 71 35).toInt) ∨ ((sf_f w 71 0).toInt = 2 ∧ (0 ≤ a_when.toInt ∧ a_when.toInt ≤ 9999 ∧ 0 ≤ a_clock.toInt ∧ a_clock.toInt ≤ 1439) ∧ ¬ ((sf_f w0 71 35).toInt < 12) ∧ (sf_f w 71 35).toInt = (sf_f w0 71 35).toInt))) → (sf_U (sf_a w0 102) (sf_a w 102) (sf_f w0 71 35).toInt (sf_f w 71 0).toInt a_when) → (sf_U (sf_a w0 103) (sf_a w 103) (sf_f w0 71 35).toInt (sf_f w 71 0).toInt a_clock) → rt (some (.inl (.int r))) w) : ks_M_declare [.inl (.ref 71), .inl (.int a_when), .inl (.int a_clock)] w0 rt xt := by
  have hs0 : sf_m sm_M_declare w0 w0 := sf_m0
  refine sf_sp (L := [(0, .inl (.ref 71)), (1, .inl (.int a_when)), (2, .inl (.int a_clock))]) rfl rfl ?_
  refine sf_aload rfl ?_
  refine sf_iload rfl ?_
  refine sf_iconst sf_c0 (fun z1 ez1 => ?_)
  refine sf_iconst sf_c9999 (fun z2 ez2 => ?_)
  refine sf_call3 rfl rfl rfl ?_
  refine sf_sp (L := [(0, .inl (.int a_when)), (1, .inl (.int z1)), (2, .inl (.int z2))]) rfl rfl ?_
  refine sf_iload rfl ?_
  refine sf_iload rfl ?_
  refine sf_f2_lt (fun h3 => ?_) (fun h3 => ?_)
  · refine sf_iconst sf_c0 (fun z4 ez4 => ?_)
    refine sf_zreturn (by omega) rfl rfl ?_
    refine sf_f1_eq (fun h5 => ?_) (fun h5 => absurd h5 (by omega))
    refine sf_iconst sf_c1 (fun z6 ez6 => ?_)
    refine sf_puti hI0 hs0 rfl rfl (sf_bd _) rfl rfl rfl (fun w7 Iw7 sw7 kw7 uw7 => ?_)
    have c8 := sf_mf kw7 (p := 71) (j := 35) rfl
    have c9 := sf_ma kw7 (p := 102) rfl
    have c10 := sf_ma kw7 (p := 103) rfl
    clear kw7
    refine sf_aload rfl ?_
    refine sf_geti Iw7 rfl rfl (fun v11 lv11 uv11 ev11 => ?_)
    rw [uw7] at ev11
    refine sf_f1_le (fun h12 => absurd h12 (by omega)) (fun h12 => ?_)
    refine sf_iconst sf_c0 (fun z13 ez13 => ?_)
    refine sf_ireturn rfl rfl ?_
    exact hR _ _ Iw7 sw7 (by omega) (by omega) (by rw [uw7]; rw [c8]; first | (refine Or.inl ⟨by omega, ?_⟩; omega) | (refine Or.inr (Or.inl ⟨by omega, ?_⟩); omega) | (refine Or.inr (Or.inr ⟨by omega, ?_⟩); omega)) (by rw [uw7]; rw [c9]; first | exact Or.inl ⟨by omega, rfl⟩ | exact Or.inr ⟨by omega, u102⟩) (by rw [uw7]; rw [c10]; first | exact Or.inl ⟨by omega, rfl⟩ | exact Or.inr ⟨by omega, u103⟩)
  · refine sf_iload rfl ?_
    refine sf_iload rfl ?_
    refine sf_f2_gt (fun h14 => ?_) (fun h14 => ?_)
    · refine sf_iconst sf_c0 (fun z15 ez15 => ?_)
      refine sf_zreturn (by omega) rfl rfl ?_
      refine sf_f1_eq (fun h16 => ?_) (fun h16 => absurd h16 (by omega))
      refine sf_iconst sf_c1 (fun z17 ez17 => ?_)
      refine sf_puti hI0 hs0 rfl rfl (sf_bd _) rfl rfl rfl (fun w18 Iw18 sw18 kw18 uw18 => ?_)
      have c19 := sf_mf kw18 (p := 71) (j := 35) rfl
      have c20 := sf_ma kw18 (p := 102) rfl
      have c21 := sf_ma kw18 (p := 103) rfl
      clear kw18
      refine sf_aload rfl ?_
      refine sf_geti Iw18 rfl rfl (fun v22 lv22 uv22 ev22 => ?_)
      rw [uw18] at ev22
      refine sf_f1_le (fun h23 => absurd h23 (by omega)) (fun h23 => ?_)
      refine sf_iconst sf_c0 (fun z24 ez24 => ?_)
      refine sf_ireturn rfl rfl ?_
      exact hR _ _ Iw18 sw18 (by omega) (by omega) (by rw [uw18]; rw [c19]; first | (refine Or.inl ⟨by omega, ?_⟩; omega) | (refine Or.inr (Or.inl ⟨by omega, ?_⟩); omega) | (refine Or.inr (Or.inr ⟨by omega, ?_⟩); omega)) (by rw [uw18]; rw [c20]; first | exact Or.inl ⟨by omega, rfl⟩ | exact Or.inr ⟨by omega, u102⟩) (by rw [uw18]; rw [c21]; first | exact Or.inl ⟨by omega, rfl⟩ | exact Or.inr ⟨by omega, u103⟩)
    · refine sf_iconst sf_c1 (fun z25 ez25 => ?_)
      refine sf_zreturn (by omega) rfl rfl ?_
      refine sf_f1_eq (fun h26 => absurd h26 (by omega)) (fun h26 => ?_)
      refine sf_iload rfl ?_
      refine sf_iconst sf_c0 (fun z27 ez27 => ?_)
      refine sf_iconst sf_c1439 (fun z28 ez28 => ?_)
      refine sf_call3 rfl rfl rfl ?_
      refine sf_sp (L := [(0, .inl (.int a_clock)), (1, .inl (.int z27)), (2, .inl (.int z28))]) rfl rfl ?_
      refine sf_iload rfl ?_
      refine sf_iload rfl ?_
      refine sf_f2_lt (fun h29 => ?_) (fun h29 => ?_)
      · refine sf_iconst sf_c0 (fun z30 ez30 => ?_)
        refine sf_zreturn (by omega) rfl rfl ?_
        refine sf_f1_eq (fun h31 => ?_) (fun h31 => absurd h31 (by omega))
        refine sf_iconst sf_c1 (fun z32 ez32 => ?_)
        refine sf_puti hI0 hs0 rfl rfl (sf_bd _) rfl rfl rfl (fun w33 Iw33 sw33 kw33 uw33 => ?_)
        have c34 := sf_mf kw33 (p := 71) (j := 35) rfl
        have c35 := sf_ma kw33 (p := 102) rfl
        have c36 := sf_ma kw33 (p := 103) rfl
        clear kw33
        refine sf_aload rfl ?_
        refine sf_geti Iw33 rfl rfl (fun v37 lv37 uv37 ev37 => ?_)
        rw [uw33] at ev37
        refine sf_f1_le (fun h38 => absurd h38 (by omega)) (fun h38 => ?_)
        refine sf_iconst sf_c0 (fun z39 ez39 => ?_)
        refine sf_ireturn rfl rfl ?_
        exact hR _ _ Iw33 sw33 (by omega) (by omega) (by rw [uw33]; rw [c34]; first | (refine Or.inl ⟨by omega, ?_⟩; omega) | (refine Or.inr (Or.inl ⟨by omega, ?_⟩); omega) | (refine Or.inr (Or.inr ⟨by omega, ?_⟩); omega)) (by rw [uw33]; rw [c35]; first | exact Or.inl ⟨by omega, rfl⟩ | exact Or.inr ⟨by omega, u102⟩) (by rw [uw33]; rw [c36]; first | exact Or.inl ⟨by omega, rfl⟩ | exact Or.inr ⟨by omega, u103⟩)
      · refine sf_iload rfl ?_
        refine sf_iload rfl ?_
        refine sf_f2_gt (fun h40 => ?_) (fun h40 => ?_)
        · refine sf_iconst sf_c0 (fun z41 ez41 => ?_)
          refine sf_zreturn (by omega) rfl rfl ?_
          refine sf_f1_eq (fun h42 => ?_) (fun h42 => absurd h42 (by omega))
          refine sf_iconst sf_c1 (fun z43 ez43 => ?_)
          refine sf_puti hI0 hs0 rfl rfl (sf_bd _) rfl rfl rfl (fun w44 Iw44 sw44 kw44 uw44 => ?_)
          have c45 := sf_mf kw44 (p := 71) (j := 35) rfl
          have c46 := sf_ma kw44 (p := 102) rfl
          have c47 := sf_ma kw44 (p := 103) rfl
          clear kw44
          refine sf_aload rfl ?_
          refine sf_geti Iw44 rfl rfl (fun v48 lv48 uv48 ev48 => ?_)
          rw [uw44] at ev48
          refine sf_f1_le (fun h49 => absurd h49 (by omega)) (fun h49 => ?_)
          refine sf_iconst sf_c0 (fun z50 ez50 => ?_)
          refine sf_ireturn rfl rfl ?_
          exact hR _ _ Iw44 sw44 (by omega) (by omega) (by rw [uw44]; rw [c45]; first | (refine Or.inl ⟨by omega, ?_⟩; omega) | (refine Or.inr (Or.inl ⟨by omega, ?_⟩); omega) | (refine Or.inr (Or.inr ⟨by omega, ?_⟩); omega)) (by rw [uw44]; rw [c46]; first | exact Or.inl ⟨by omega, rfl⟩ | exact Or.inr ⟨by omega, u102⟩) (by rw [uw44]; rw [c47]; first | exact Or.inl ⟨by omega, rfl⟩ | exact Or.inr ⟨by omega, u103⟩)
        · refine sf_iconst sf_c1 (fun z51 ez51 => ?_)
          refine sf_zreturn (by omega) rfl rfl ?_
          refine sf_f1_eq (fun h52 => absurd h52 (by omega)) (fun h52 => ?_)
          refine sf_aload rfl ?_
          refine sf_geti hI0 rfl rfl (fun v53 lv53 uv53 ev53 => ?_)
          refine sf_iconst sf_c12 (fun z54 ez54 => ?_)
          refine sf_f2_eq (fun h55 => ?_) (fun h55 => ?_)
          · refine sf_iconst sf_c2 (fun z56 ez56 => ?_)
            refine sf_puti hI0 hs0 rfl rfl (sf_bd _) rfl rfl rfl (fun w57 Iw57 sw57 kw57 uw57 => ?_)
            have c58 := sf_mf kw57 (p := 71) (j := 35) rfl
            have c59 := sf_ma kw57 (p := 102) rfl
            have c60 := sf_ma kw57 (p := 103) rfl
            clear kw57
            refine sf_aload rfl ?_
            refine sf_geti Iw57 rfl rfl (fun v61 lv61 uv61 ev61 => ?_)
            rw [uw57] at ev61
            refine sf_f1_le (fun h62 => absurd h62 (by omega)) (fun h62 => ?_)
            refine sf_iconst sf_c0 (fun z63 ez63 => ?_)
            refine sf_ireturn rfl rfl ?_
            exact hR _ _ Iw57 sw57 (by omega) (by omega) (by rw [uw57]; rw [c58]; first | (refine Or.inl ⟨by omega, ?_⟩; omega) | (refine Or.inr (Or.inl ⟨by omega, ?_⟩); omega) | (refine Or.inr (Or.inr ⟨by omega, ?_⟩); omega)) (by rw [uw57]; rw [c59]; first | exact Or.inl ⟨by omega, rfl⟩ | exact Or.inr ⟨by omega, u102⟩) (by rw [uw57]; rw [c60]; first | exact Or.inl ⟨by omega, rfl⟩ | exact Or.inr ⟨by omega, u103⟩)
          · refine sf_iconst sf_c0 (fun z64 ez64 => ?_)
            refine sf_puti hI0 hs0 rfl rfl (sf_bd _) rfl rfl rfl (fun w65 Iw65 sw65 kw65 uw65 => ?_)
            have c66 := sf_mf kw65 (p := 71) (j := 35) rfl
            have c67 := sf_ma kw65 (p := 102) rfl
            have c68 := sf_ma kw65 (p := 103) rfl
            clear kw65
            refine sf_aload rfl ?_
            refine sf_geti Iw65 rfl rfl (fun v69 lv69 uv69 ev69 => ?_)
            rw [uw65] at ev69
            refine sf_f1_le (fun h70 => ?_) (fun h70 => absurd h70 (by omega))
            refine sf_aload rfl ?_
            refine sf_getr Iw65 rfl rfl ?_
            refine sf_aload rfl ?_
            refine sf_geti Iw65 rfl rfl (fun v71 lv71 uv71 ev71 => ?_)
            rw [c66] at ev71
            refine sf_iload rfl ?_
            refine sf_iast Iw65 sw65 rfl (by omega) (sf_bd _) rfl rfl (fun w72 Iw72 sw72 kw72 uw72 => ?_)
            have c73 := sf_mf kw72 (p := 71) (j := 0) rfl
            have c74 := sf_mf kw72 (p := 71) (j := 35) rfl
            have c75 := sf_ma kw72 (p := 103) rfl
            clear kw72
            have u102 := uw72
            rw [show v71.toInt = (sf_f w0 71 35).toInt by omega] at u102
            rw [c67] at u102
            refine sf_aload rfl ?_
            refine sf_getr Iw72 rfl rfl ?_
            refine sf_aload rfl ?_
            refine sf_geti Iw72 rfl rfl (fun v76 lv76 uv76 ev76 => ?_)
            rw [c74, c66] at ev76
            refine sf_iload rfl ?_
            refine sf_iast Iw72 sw72 rfl (by omega) (sf_bd _) rfl rfl (fun w77 Iw77 sw77 kw77 uw77 => ?_)
            have c78 := sf_mf kw77 (p := 71) (j := 0) rfl
            have c79 := sf_mf kw77 (p := 71) (j := 35) rfl
            have c80 := sf_ma kw77 (p := 102) rfl
            clear kw77
            have u103 := uw77
            rw [show v76.toInt = (sf_f w0 71 35).toInt by omega] at u103
            rw [c75, c68] at u103
            refine sf_aload rfl ?_
            refine sf_dup rfl ?_
            refine sf_geti Iw77 rfl rfl (fun v81 lv81 uv81 ev81 => ?_)
            rw [c79, c74, c66] at ev81
            refine sf_iconst sf_c1 (fun z82 ez82 => ?_)
            refine sf_iadd (by omega) (fun v83 ev83 => ?_)
            refine sf_puti Iw77 sw77 rfl rfl (by omega) rfl rfl rfl (fun w84 Iw84 sw84 kw84 uw84 => ?_)
            have c85 := sf_mf kw84 (p := 71) (j := 0) rfl
            have c86 := sf_ma kw84 (p := 102) rfl
            have c87 := sf_ma kw84 (p := 103) rfl
            clear kw84
            refine sf_aload rfl ?_
            refine sf_geti Iw84 rfl rfl (fun v88 lv88 uv88 ev88 => ?_)
            rw [uw84] at ev88
            refine sf_iconst sf_c1 (fun z89 ez89 => ?_)
            refine sf_isub (by omega) (fun v90 ev90 => ?_)
            refine sf_ireturn rfl rfl ?_
            exact hR _ _ Iw84 sw84 (by omega) (by omega) (by rw [c85, c78, c73, uw65]; rw [uw84]; first | (refine Or.inl ⟨by omega, ?_⟩; omega) | (refine Or.inr (Or.inl ⟨by omega, ?_⟩); omega) | (refine Or.inr (Or.inr ⟨by omega, ?_⟩); omega)) (by rw [c85, c78, c73, uw65]; rw [c86, c80]; first | exact Or.inl ⟨by omega, rfl⟩ | exact Or.inr ⟨by omega, u102⟩) (by rw [c85, c78, c73, uw65]; rw [c87]; first | exact Or.inl ⟨by omega, rfl⟩ | exact Or.inr ⟨by omega, u103⟩)
def sm_M_line : List Nat := [71, 104, 107, 108, 109, 110, 8100]
set_option maxRecDepth 100000 in
set_option maxHeartbeats 4000000 in
theorem sc_M_line {w0 : wq_W} (hI0 : sf_I w0) {rt : Option wq_V → wq_W → Prop} {xt : Nat → wq_W → Prop} {a_d : Int32} {a_good : Int32} {a_land : Int32} {a_units : Int32} {a_kilograms : Int32} {a_price : Int32} {a_held : Int32} (p0 : 0 ≤ a_held.toInt) (p1 : a_held.toInt ≤ 1) (hR : ∀ (r : Int32) (w : wq_W), sf_I w → sf_m sm_M_line w0 w → (-1) ≤ r.toInt → r.toInt ≤ 3 → ((((sf_f w 71 0).toInt = 0 ∧ (0 ≤ a_d.toInt ∧ a_d.toInt < (sf_f w0 71 35).toInt ∧ 0 ≤ a_good.toInt ∧ a_good.toInt ≤ 15 ∧ 0 ≤ a_land.toInt ∧ a_land.toInt ≤ 7 ∧ 1 ≤ a_units.toInt ∧ a_units.toInt ≤ 1000 ∧ 0 ≤ a_kilograms.toInt ∧ a_kilograms.toInt ≤ 1000000 ∧ 0 ≤ a_price.toInt ∧ a_price.toInt ≤ 100000000) ∧ ((sf_a w0 106 a_d.toInt.toNat).toInt = 0 ∧ (sf_a w0 104 a_d.toInt.toNat).toInt < 4) ∧ r.toInt = (sf_a w0 104 a_d.toInt.toNat).toInt) ∨ ((sf_f w 71 0).toInt = 1 ∧ ¬ (0 ≤ a_d.toInt ∧ a_d.toInt < (sf_f w0 71 35).toInt ∧ 0 ≤ a_good.toInt ∧ a_good.toInt ≤ 15 ∧ 0 ≤ a_land.toInt ∧ a_land.toInt ≤ 7 ∧ 1 ≤ a_units.toInt ∧ a_units.toInt ≤ 1000 ∧ 0 ≤ a_kilograms.toInt ∧ a_kilograms.toInt ≤ 1000000 ∧ 0 ≤ a_price.toInt ∧ a_price.toInt ≤ 100000000)) ∨ ((sf_f w 71 0).toInt = 2 ∧ (0 ≤ a_d.toInt ∧ a_d.toInt < (sf_f w0 71 35).toInt ∧ 0 ≤ a_good.toInt ∧ a_good.toInt ≤ 15 ∧ 0 ≤ a_land.toInt ∧ a_land.toInt ≤ 7 ∧ 1 ≤ a_units.toInt ∧ a_units.toInt ≤ 1000 ∧ 0 ≤ a_kilograms.toInt ∧ a_kilograms.toInt ≤ 1000000 ∧ 0 ≤ a_price.toInt ∧ a_price.toInt ≤ 100000000) ∧ ¬ ((sf_a w0 106 a_d.toInt.toNat).toInt = 0 ∧ (sf_a w0 104 a_d.toInt.toNat).toInt < 4)))) → (sf_U (sf_a w0 107) (sf_a w 107) (4 * a_d.toInt + (sf_a w0 104 a_d.toInt.toNat).toInt) (sf_f w 71 0).toInt a_good) → (sf_U (sf_a w0 108) (sf_a w 108) (4 * a_d.toInt + (sf_a w0 104 a_d.toInt.toNat).toInt) (sf_f w 71 0).toInt a_land) → (sf_U (sf_a w0 109) (sf_a w 109) (4 * a_d.toInt + (sf_a w0 104 a_d.toInt.toNat).toInt) (sf_f w 71 0).toInt a_held) → (sl_UL (sf_a w0 104) (sf_a w 104) a_d.toInt (sf_f w 71 0).toInt) → (sl_U3 (sf_a w0 110) (sf_a w 110) (4 * a_d.toInt + (sf_a w0 104 a_d.toInt.toNat).toInt) (sf_f w 71 0).toInt a_units) → rt (some (.inl (.int r))) w) : ks_M_line [.inl (.ref 71), .inl (.int a_d), .inl (.int a_good), .inl (.int a_land), .inl (.int a_units), .inl (.int a_kilograms), .inl (.int a_price), .inl (.int a_held)] w0 rt xt := by
  have hs0 : sf_m sm_M_line w0 w0 := sf_m0
  refine sf_sp (L := [(0, .inl (.ref 71)), (1, .inl (.int a_d)), (2, .inl (.int a_good)), (3, .inl (.int a_land)), (4, .inl (.int a_units)), (5, .inl (.int a_kilograms)), (6, .inl (.int a_price)), (7, .inl (.int a_held))]) rfl rfl ?_
  refine sf_aload rfl ?_
  refine sf_iload rfl ?_
  refine sf_call2 rfl rfl rfl ?_
  refine sf_rv hI0 rfl ?_
  refine sf_sp (L := [(0, .inl (.ref 71)), (1, .inl (.int a_d))]) rfl rfl ?_
  refine sf_iload rfl ?_
  refine sf_f1_lt (fun h1 => ?_) (fun h1 => ?_)
  · refine sf_iconst sf_c0 (fun z2 ez2 => ?_)
    refine sf_zreturn (by omega) rfl rfl ?_
    refine sf_f1_eq (fun h3 => ?_) (fun h3 => absurd h3 (by omega))
    refine sf_iconst sf_c0 (fun z4 ez4 => ?_)
    refine sf_istore (L' := [(0, .inl (.ref 71)), (1, .inl (.int a_d)), (2, .inl (.int a_good)), (3, .inl (.int a_land)), (4, .inl (.int a_units)), (5, .inl (.int a_kilograms)), (6, .inl (.int a_price)), (7, .inl (.int a_held))]) rfl ?_
    refine sf_aload rfl ?_
    refine sf_iload rfl ?_
    refine sf_f1_eq (fun h5 => ?_) (fun h5 => absurd h5 (by omega))
    refine sf_iconst sf_c1 (fun z6 ez6 => ?_)
    refine sf_puti hI0 hs0 rfl rfl (sf_bd _) rfl rfl rfl (fun w7 Iw7 sw7 kw7 uw7 => ?_)
    have c8 := sf_ma kw7 (p := 104) rfl
    have c9 := sf_ma kw7 (p := 110) rfl
    have c10 := sf_ma kw7 (p := 107) rfl
    have c11 := sf_ma kw7 (p := 108) rfl
    have c12 := sf_ma kw7 (p := 109) rfl
    clear kw7
    refine sf_aload rfl ?_
    refine sf_geti Iw7 rfl rfl (fun v13 lv13 uv13 ev13 => ?_)
    rw [uw7] at ev13
    refine sf_f1_le (fun h14 => absurd h14 (by omega)) (fun h14 => ?_)
    refine sf_iconst sf_c0 (fun z15 ez15 => ?_)
    refine sf_ireturn rfl rfl ?_
    exact hR _ _ Iw7 sw7 (by omega) (by omega) (by rw [uw7]; first | (refine Or.inl ⟨by omega, ?_⟩; omega) | (refine Or.inr (Or.inl ⟨by omega, ?_⟩); omega) | (refine Or.inr (Or.inr ⟨by omega, ?_⟩); omega)) (by rw [uw7]; rw [c10]; first | exact Or.inl ⟨by omega, rfl⟩ | exact Or.inr ⟨by omega, u107⟩) (by rw [uw7]; rw [c11]; first | exact Or.inl ⟨by omega, rfl⟩ | exact Or.inr ⟨by omega, u108⟩) (by rw [uw7]; rw [c12]; first | exact Or.inl ⟨by omega, rfl⟩ | exact Or.inr ⟨by omega, u109⟩) (by rw [uw7]; rw [c8]; exact Or.inl ⟨by omega, rfl⟩) (by rw [uw7]; rw [c9]; exact Or.inl ⟨by omega, rfl⟩)
  · refine sf_iload rfl ?_
    refine sf_aload rfl ?_
    refine sf_geti hI0 rfl rfl (fun v16 lv16 uv16 ev16 => ?_)
    refine sf_f2_ge (fun h17 => ?_) (fun h17 => ?_)
    · refine sf_iconst sf_c0 (fun z18 ez18 => ?_)
      refine sf_zreturn (by omega) rfl rfl ?_
      refine sf_f1_eq (fun h19 => ?_) (fun h19 => absurd h19 (by omega))
      refine sf_iconst sf_c0 (fun z20 ez20 => ?_)
      refine sf_istore (L' := [(0, .inl (.ref 71)), (1, .inl (.int a_d)), (2, .inl (.int a_good)), (3, .inl (.int a_land)), (4, .inl (.int a_units)), (5, .inl (.int a_kilograms)), (6, .inl (.int a_price)), (7, .inl (.int a_held))]) rfl ?_
      refine sf_aload rfl ?_
      refine sf_iload rfl ?_
      refine sf_f1_eq (fun h21 => ?_) (fun h21 => absurd h21 (by omega))
      refine sf_iconst sf_c1 (fun z22 ez22 => ?_)
      refine sf_puti hI0 hs0 rfl rfl (sf_bd _) rfl rfl rfl (fun w23 Iw23 sw23 kw23 uw23 => ?_)
      have c24 := sf_ma kw23 (p := 104) rfl
      have c25 := sf_ma kw23 (p := 110) rfl
      have c26 := sf_ma kw23 (p := 107) rfl
      have c27 := sf_ma kw23 (p := 108) rfl
      have c28 := sf_ma kw23 (p := 109) rfl
      clear kw23
      refine sf_aload rfl ?_
      refine sf_geti Iw23 rfl rfl (fun v29 lv29 uv29 ev29 => ?_)
      rw [uw23] at ev29
      refine sf_f1_le (fun h30 => absurd h30 (by omega)) (fun h30 => ?_)
      refine sf_iconst sf_c0 (fun z31 ez31 => ?_)
      refine sf_ireturn rfl rfl ?_
      exact hR _ _ Iw23 sw23 (by omega) (by omega) (by rw [uw23]; first | (refine Or.inl ⟨by omega, ?_⟩; omega) | (refine Or.inr (Or.inl ⟨by omega, ?_⟩); omega) | (refine Or.inr (Or.inr ⟨by omega, ?_⟩); omega)) (by rw [uw23]; rw [c26]; first | exact Or.inl ⟨by omega, rfl⟩ | exact Or.inr ⟨by omega, u107⟩) (by rw [uw23]; rw [c27]; first | exact Or.inl ⟨by omega, rfl⟩ | exact Or.inr ⟨by omega, u108⟩) (by rw [uw23]; rw [c28]; first | exact Or.inl ⟨by omega, rfl⟩ | exact Or.inr ⟨by omega, u109⟩) (by rw [uw23]; rw [c24]; exact Or.inl ⟨by omega, rfl⟩) (by rw [uw23]; rw [c25]; exact Or.inl ⟨by omega, rfl⟩)
    · refine sf_iconst sf_c1 (fun z32 ez32 => ?_)
      refine sf_zreturn (by omega) rfl rfl ?_
      refine sf_f1_eq (fun h33 => absurd h33 (by omega)) (fun h33 => ?_)
      refine sf_iload rfl ?_
      refine sf_iconst sf_c0 (fun z34 ez34 => ?_)
      refine sf_iconst sf_c15 (fun z35 ez35 => ?_)
      refine sf_call3 rfl rfl rfl ?_
      refine sf_sp (L := [(0, .inl (.int a_good)), (1, .inl (.int z34)), (2, .inl (.int z35))]) rfl rfl ?_
      refine sf_iload rfl ?_
      refine sf_iload rfl ?_
      refine sf_f2_lt (fun h36 => ?_) (fun h36 => ?_)
      · refine sf_iconst sf_c0 (fun z37 ez37 => ?_)
        refine sf_zreturn (by omega) rfl rfl ?_
        refine sf_f1_eq (fun h38 => ?_) (fun h38 => absurd h38 (by omega))
        refine sf_iconst sf_c0 (fun z39 ez39 => ?_)
        refine sf_istore (L' := [(0, .inl (.ref 71)), (1, .inl (.int a_d)), (2, .inl (.int a_good)), (3, .inl (.int a_land)), (4, .inl (.int a_units)), (5, .inl (.int a_kilograms)), (6, .inl (.int a_price)), (7, .inl (.int a_held))]) rfl ?_
        refine sf_aload rfl ?_
        refine sf_iload rfl ?_
        refine sf_f1_eq (fun h40 => ?_) (fun h40 => absurd h40 (by omega))
        refine sf_iconst sf_c1 (fun z41 ez41 => ?_)
        refine sf_puti hI0 hs0 rfl rfl (sf_bd _) rfl rfl rfl (fun w42 Iw42 sw42 kw42 uw42 => ?_)
        have c43 := sf_ma kw42 (p := 104) rfl
        have c44 := sf_ma kw42 (p := 110) rfl
        have c45 := sf_ma kw42 (p := 107) rfl
        have c46 := sf_ma kw42 (p := 108) rfl
        have c47 := sf_ma kw42 (p := 109) rfl
        clear kw42
        refine sf_aload rfl ?_
        refine sf_geti Iw42 rfl rfl (fun v48 lv48 uv48 ev48 => ?_)
        rw [uw42] at ev48
        refine sf_f1_le (fun h49 => absurd h49 (by omega)) (fun h49 => ?_)
        refine sf_iconst sf_c0 (fun z50 ez50 => ?_)
        refine sf_ireturn rfl rfl ?_
        exact hR _ _ Iw42 sw42 (by omega) (by omega) (by rw [uw42]; first | (refine Or.inl ⟨by omega, ?_⟩; omega) | (refine Or.inr (Or.inl ⟨by omega, ?_⟩); omega) | (refine Or.inr (Or.inr ⟨by omega, ?_⟩); omega)) (by rw [uw42]; rw [c45]; first | exact Or.inl ⟨by omega, rfl⟩ | exact Or.inr ⟨by omega, u107⟩) (by rw [uw42]; rw [c46]; first | exact Or.inl ⟨by omega, rfl⟩ | exact Or.inr ⟨by omega, u108⟩) (by rw [uw42]; rw [c47]; first | exact Or.inl ⟨by omega, rfl⟩ | exact Or.inr ⟨by omega, u109⟩) (by rw [uw42]; rw [c43]; exact Or.inl ⟨by omega, rfl⟩) (by rw [uw42]; rw [c44]; exact Or.inl ⟨by omega, rfl⟩)
      · refine sf_iload rfl ?_
        refine sf_iload rfl ?_
        refine sf_f2_gt (fun h51 => ?_) (fun h51 => ?_)
        · refine sf_iconst sf_c0 (fun z52 ez52 => ?_)
          refine sf_zreturn (by omega) rfl rfl ?_
          refine sf_f1_eq (fun h53 => ?_) (fun h53 => absurd h53 (by omega))
          refine sf_iconst sf_c0 (fun z54 ez54 => ?_)
          refine sf_istore (L' := [(0, .inl (.ref 71)), (1, .inl (.int a_d)), (2, .inl (.int a_good)), (3, .inl (.int a_land)), (4, .inl (.int a_units)), (5, .inl (.int a_kilograms)), (6, .inl (.int a_price)), (7, .inl (.int a_held))]) rfl ?_
          refine sf_aload rfl ?_
          refine sf_iload rfl ?_
          refine sf_f1_eq (fun h55 => ?_) (fun h55 => absurd h55 (by omega))
          refine sf_iconst sf_c1 (fun z56 ez56 => ?_)
          refine sf_puti hI0 hs0 rfl rfl (sf_bd _) rfl rfl rfl (fun w57 Iw57 sw57 kw57 uw57 => ?_)
          have c58 := sf_ma kw57 (p := 104) rfl
          have c59 := sf_ma kw57 (p := 110) rfl
          have c60 := sf_ma kw57 (p := 107) rfl
          have c61 := sf_ma kw57 (p := 108) rfl
          have c62 := sf_ma kw57 (p := 109) rfl
          clear kw57
          refine sf_aload rfl ?_
          refine sf_geti Iw57 rfl rfl (fun v63 lv63 uv63 ev63 => ?_)
          rw [uw57] at ev63
          refine sf_f1_le (fun h64 => absurd h64 (by omega)) (fun h64 => ?_)
          refine sf_iconst sf_c0 (fun z65 ez65 => ?_)
          refine sf_ireturn rfl rfl ?_
          exact hR _ _ Iw57 sw57 (by omega) (by omega) (by rw [uw57]; first | (refine Or.inl ⟨by omega, ?_⟩; omega) | (refine Or.inr (Or.inl ⟨by omega, ?_⟩); omega) | (refine Or.inr (Or.inr ⟨by omega, ?_⟩); omega)) (by rw [uw57]; rw [c60]; first | exact Or.inl ⟨by omega, rfl⟩ | exact Or.inr ⟨by omega, u107⟩) (by rw [uw57]; rw [c61]; first | exact Or.inl ⟨by omega, rfl⟩ | exact Or.inr ⟨by omega, u108⟩) (by rw [uw57]; rw [c62]; first | exact Or.inl ⟨by omega, rfl⟩ | exact Or.inr ⟨by omega, u109⟩) (by rw [uw57]; rw [c58]; exact Or.inl ⟨by omega, rfl⟩) (by rw [uw57]; rw [c59]; exact Or.inl ⟨by omega, rfl⟩)
        · refine sf_iconst sf_c1 (fun z66 ez66 => ?_)
          refine sf_zreturn (by omega) rfl rfl ?_
          refine sf_f1_eq (fun h67 => absurd h67 (by omega)) (fun h67 => ?_)
          refine sf_iload rfl ?_
          refine sf_iconst sf_c0 (fun z68 ez68 => ?_)
          refine sf_iconst sf_c7 (fun z69 ez69 => ?_)
          refine sf_call3 rfl rfl rfl ?_
          refine sf_sp (L := [(0, .inl (.int a_land)), (1, .inl (.int z68)), (2, .inl (.int z69))]) rfl rfl ?_
          refine sf_iload rfl ?_
          refine sf_iload rfl ?_
          refine sf_f2_lt (fun h70 => ?_) (fun h70 => ?_)
          · refine sf_iconst sf_c0 (fun z71 ez71 => ?_)
            refine sf_zreturn (by omega) rfl rfl ?_
            refine sf_f1_eq (fun h72 => ?_) (fun h72 => absurd h72 (by omega))
            refine sf_iconst sf_c0 (fun z73 ez73 => ?_)
            refine sf_istore (L' := [(0, .inl (.ref 71)), (1, .inl (.int a_d)), (2, .inl (.int a_good)), (3, .inl (.int a_land)), (4, .inl (.int a_units)), (5, .inl (.int a_kilograms)), (6, .inl (.int a_price)), (7, .inl (.int a_held))]) rfl ?_
            refine sf_aload rfl ?_
            refine sf_iload rfl ?_
            refine sf_f1_eq (fun h74 => ?_) (fun h74 => absurd h74 (by omega))
            refine sf_iconst sf_c1 (fun z75 ez75 => ?_)
            refine sf_puti hI0 hs0 rfl rfl (sf_bd _) rfl rfl rfl (fun w76 Iw76 sw76 kw76 uw76 => ?_)
            have c77 := sf_ma kw76 (p := 104) rfl
            have c78 := sf_ma kw76 (p := 110) rfl
            have c79 := sf_ma kw76 (p := 107) rfl
            have c80 := sf_ma kw76 (p := 108) rfl
            have c81 := sf_ma kw76 (p := 109) rfl
            clear kw76
            refine sf_aload rfl ?_
            refine sf_geti Iw76 rfl rfl (fun v82 lv82 uv82 ev82 => ?_)
            rw [uw76] at ev82
            refine sf_f1_le (fun h83 => absurd h83 (by omega)) (fun h83 => ?_)
            refine sf_iconst sf_c0 (fun z84 ez84 => ?_)
            refine sf_ireturn rfl rfl ?_
            exact hR _ _ Iw76 sw76 (by omega) (by omega) (by rw [uw76]; first | (refine Or.inl ⟨by omega, ?_⟩; omega) | (refine Or.inr (Or.inl ⟨by omega, ?_⟩); omega) | (refine Or.inr (Or.inr ⟨by omega, ?_⟩); omega)) (by rw [uw76]; rw [c79]; first | exact Or.inl ⟨by omega, rfl⟩ | exact Or.inr ⟨by omega, u107⟩) (by rw [uw76]; rw [c80]; first | exact Or.inl ⟨by omega, rfl⟩ | exact Or.inr ⟨by omega, u108⟩) (by rw [uw76]; rw [c81]; first | exact Or.inl ⟨by omega, rfl⟩ | exact Or.inr ⟨by omega, u109⟩) (by rw [uw76]; rw [c77]; exact Or.inl ⟨by omega, rfl⟩) (by rw [uw76]; rw [c78]; exact Or.inl ⟨by omega, rfl⟩)
          · refine sf_iload rfl ?_
            refine sf_iload rfl ?_
            refine sf_f2_gt (fun h85 => ?_) (fun h85 => ?_)
            · refine sf_iconst sf_c0 (fun z86 ez86 => ?_)
              refine sf_zreturn (by omega) rfl rfl ?_
              refine sf_f1_eq (fun h87 => ?_) (fun h87 => absurd h87 (by omega))
              refine sf_iconst sf_c0 (fun z88 ez88 => ?_)
              refine sf_istore (L' := [(0, .inl (.ref 71)), (1, .inl (.int a_d)), (2, .inl (.int a_good)), (3, .inl (.int a_land)), (4, .inl (.int a_units)), (5, .inl (.int a_kilograms)), (6, .inl (.int a_price)), (7, .inl (.int a_held))]) rfl ?_
              refine sf_aload rfl ?_
              refine sf_iload rfl ?_
              refine sf_f1_eq (fun h89 => ?_) (fun h89 => absurd h89 (by omega))
              refine sf_iconst sf_c1 (fun z90 ez90 => ?_)
              refine sf_puti hI0 hs0 rfl rfl (sf_bd _) rfl rfl rfl (fun w91 Iw91 sw91 kw91 uw91 => ?_)
              have c92 := sf_ma kw91 (p := 104) rfl
              have c93 := sf_ma kw91 (p := 110) rfl
              have c94 := sf_ma kw91 (p := 107) rfl
              have c95 := sf_ma kw91 (p := 108) rfl
              have c96 := sf_ma kw91 (p := 109) rfl
              clear kw91
              refine sf_aload rfl ?_
              refine sf_geti Iw91 rfl rfl (fun v97 lv97 uv97 ev97 => ?_)
              rw [uw91] at ev97
              refine sf_f1_le (fun h98 => absurd h98 (by omega)) (fun h98 => ?_)
              refine sf_iconst sf_c0 (fun z99 ez99 => ?_)
              refine sf_ireturn rfl rfl ?_
              exact hR _ _ Iw91 sw91 (by omega) (by omega) (by rw [uw91]; first | (refine Or.inl ⟨by omega, ?_⟩; omega) | (refine Or.inr (Or.inl ⟨by omega, ?_⟩); omega) | (refine Or.inr (Or.inr ⟨by omega, ?_⟩); omega)) (by rw [uw91]; rw [c94]; first | exact Or.inl ⟨by omega, rfl⟩ | exact Or.inr ⟨by omega, u107⟩) (by rw [uw91]; rw [c95]; first | exact Or.inl ⟨by omega, rfl⟩ | exact Or.inr ⟨by omega, u108⟩) (by rw [uw91]; rw [c96]; first | exact Or.inl ⟨by omega, rfl⟩ | exact Or.inr ⟨by omega, u109⟩) (by rw [uw91]; rw [c92]; exact Or.inl ⟨by omega, rfl⟩) (by rw [uw91]; rw [c93]; exact Or.inl ⟨by omega, rfl⟩)
            · refine sf_iconst sf_c1 (fun z100 ez100 => ?_)
              refine sf_zreturn (by omega) rfl rfl ?_
              refine sf_f1_eq (fun h101 => absurd h101 (by omega)) (fun h101 => ?_)
              refine sf_iconst sf_c0 (fun z102 ez102 => ?_)
              refine sf_iload rfl ?_
              refine sf_call2 rfl rfl rfl ?_
              refine sf_sp (L := [(0, .inl (.int z102)), (1, .inl (.int a_units))]) rfl rfl ?_
              refine sf_iload rfl ?_
              refine sf_f1_eq (fun h103 => ?_) (fun h103 => absurd h103 (by omega))
              refine sf_iload rfl ?_
              refine sf_iconst sf_c1 (fun z104 ez104 => ?_)
              refine sf_f2_lt (fun h105 => ?_) (fun h105 => ?_)
              · refine sf_iconst sf_c0 (fun z106 ez106 => ?_)
                refine sf_zreturn (by omega) rfl rfl ?_
                refine sf_f1_eq (fun h107 => ?_) (fun h107 => absurd h107 (by omega))
                refine sf_iconst sf_c0 (fun z108 ez108 => ?_)
                refine sf_istore (L' := [(0, .inl (.ref 71)), (1, .inl (.int a_d)), (2, .inl (.int a_good)), (3, .inl (.int a_land)), (4, .inl (.int a_units)), (5, .inl (.int a_kilograms)), (6, .inl (.int a_price)), (7, .inl (.int a_held))]) rfl ?_
                refine sf_aload rfl ?_
                refine sf_iload rfl ?_
                refine sf_f1_eq (fun h109 => ?_) (fun h109 => absurd h109 (by omega))
                refine sf_iconst sf_c1 (fun z110 ez110 => ?_)
                refine sf_puti hI0 hs0 rfl rfl (sf_bd _) rfl rfl rfl (fun w111 Iw111 sw111 kw111 uw111 => ?_)
                have c112 := sf_ma kw111 (p := 104) rfl
                have c113 := sf_ma kw111 (p := 110) rfl
                have c114 := sf_ma kw111 (p := 107) rfl
                have c115 := sf_ma kw111 (p := 108) rfl
                have c116 := sf_ma kw111 (p := 109) rfl
                clear kw111
                refine sf_aload rfl ?_
                refine sf_geti Iw111 rfl rfl (fun v117 lv117 uv117 ev117 => ?_)
                rw [uw111] at ev117
                refine sf_f1_le (fun h118 => absurd h118 (by omega)) (fun h118 => ?_)
                refine sf_iconst sf_c0 (fun z119 ez119 => ?_)
                refine sf_ireturn rfl rfl ?_
                exact hR _ _ Iw111 sw111 (by omega) (by omega) (by rw [uw111]; first | (refine Or.inl ⟨by omega, ?_⟩; omega) | (refine Or.inr (Or.inl ⟨by omega, ?_⟩); omega) | (refine Or.inr (Or.inr ⟨by omega, ?_⟩); omega)) (by rw [uw111]; rw [c114]; first | exact Or.inl ⟨by omega, rfl⟩ | exact Or.inr ⟨by omega, u107⟩) (by rw [uw111]; rw [c115]; first | exact Or.inl ⟨by omega, rfl⟩ | exact Or.inr ⟨by omega, u108⟩) (by rw [uw111]; rw [c116]; first | exact Or.inl ⟨by omega, rfl⟩ | exact Or.inr ⟨by omega, u109⟩) (by rw [uw111]; rw [c112]; exact Or.inl ⟨by omega, rfl⟩) (by rw [uw111]; rw [c113]; exact Or.inl ⟨by omega, rfl⟩)
              · refine sf_iload rfl ?_
                refine sf_iconst sf_c1000 (fun z120 ez120 => ?_)
                refine sf_f2_gt (fun h121 => ?_) (fun h121 => ?_)
                · refine sf_iconst sf_c0 (fun z122 ez122 => ?_)
                  refine sf_zreturn (by omega) rfl rfl ?_
                  refine sf_f1_eq (fun h123 => ?_) (fun h123 => absurd h123 (by omega))
                  refine sf_iconst sf_c0 (fun z124 ez124 => ?_)
                  refine sf_istore (L' := [(0, .inl (.ref 71)), (1, .inl (.int a_d)), (2, .inl (.int a_good)), (3, .inl (.int a_land)), (4, .inl (.int a_units)), (5, .inl (.int a_kilograms)), (6, .inl (.int a_price)), (7, .inl (.int a_held))]) rfl ?_
                  refine sf_aload rfl ?_
                  refine sf_iload rfl ?_
                  refine sf_f1_eq (fun h125 => ?_) (fun h125 => absurd h125 (by omega))
                  refine sf_iconst sf_c1 (fun z126 ez126 => ?_)
                  refine sf_puti hI0 hs0 rfl rfl (sf_bd _) rfl rfl rfl (fun w127 Iw127 sw127 kw127 uw127 => ?_)
                  have c128 := sf_ma kw127 (p := 104) rfl
                  have c129 := sf_ma kw127 (p := 110) rfl
                  have c130 := sf_ma kw127 (p := 107) rfl
                  have c131 := sf_ma kw127 (p := 108) rfl
                  have c132 := sf_ma kw127 (p := 109) rfl
                  clear kw127
                  refine sf_aload rfl ?_
                  refine sf_geti Iw127 rfl rfl (fun v133 lv133 uv133 ev133 => ?_)
                  rw [uw127] at ev133
                  refine sf_f1_le (fun h134 => absurd h134 (by omega)) (fun h134 => ?_)
                  refine sf_iconst sf_c0 (fun z135 ez135 => ?_)
                  refine sf_ireturn rfl rfl ?_
                  exact hR _ _ Iw127 sw127 (by omega) (by omega) (by rw [uw127]; first | (refine Or.inl ⟨by omega, ?_⟩; omega) | (refine Or.inr (Or.inl ⟨by omega, ?_⟩); omega) | (refine Or.inr (Or.inr ⟨by omega, ?_⟩); omega)) (by rw [uw127]; rw [c130]; first | exact Or.inl ⟨by omega, rfl⟩ | exact Or.inr ⟨by omega, u107⟩) (by rw [uw127]; rw [c131]; first | exact Or.inl ⟨by omega, rfl⟩ | exact Or.inr ⟨by omega, u108⟩) (by rw [uw127]; rw [c132]; first | exact Or.inl ⟨by omega, rfl⟩ | exact Or.inr ⟨by omega, u109⟩) (by rw [uw127]; rw [c128]; exact Or.inl ⟨by omega, rfl⟩) (by rw [uw127]; rw [c129]; exact Or.inl ⟨by omega, rfl⟩)
                · refine sf_iconst sf_c1 (fun z136 ez136 => ?_)
                  refine sf_zreturn (by omega) rfl rfl ?_
                  refine sf_f1_eq (fun h137 => absurd h137 (by omega)) (fun h137 => ?_)
                  refine sf_iconst sf_c1 (fun z138 ez138 => ?_)
                  refine sf_iload rfl ?_
                  refine sf_call2 rfl rfl rfl ?_
                  refine sf_sp (L := [(0, .inl (.int z138)), (1, .inl (.int a_kilograms))]) rfl rfl ?_
                  refine sf_iload rfl ?_
                  refine sf_f1_eq (fun h139 => absurd h139 (by omega)) (fun h139 => ?_)
                  refine sf_iload rfl ?_
                  refine sf_f1_lt (fun h140 => ?_) (fun h140 => ?_)
                  · refine sf_iconst sf_c0 (fun z141 ez141 => ?_)
                    refine sf_zreturn (by omega) rfl rfl ?_
                    refine sf_f1_eq (fun h142 => ?_) (fun h142 => absurd h142 (by omega))
                    refine sf_iconst sf_c0 (fun z143 ez143 => ?_)
                    refine sf_istore (L' := [(0, .inl (.ref 71)), (1, .inl (.int a_d)), (2, .inl (.int a_good)), (3, .inl (.int a_land)), (4, .inl (.int a_units)), (5, .inl (.int a_kilograms)), (6, .inl (.int a_price)), (7, .inl (.int a_held))]) rfl ?_
                    refine sf_aload rfl ?_
                    refine sf_iload rfl ?_
                    refine sf_f1_eq (fun h144 => ?_) (fun h144 => absurd h144 (by omega))
                    refine sf_iconst sf_c1 (fun z145 ez145 => ?_)
                    refine sf_puti hI0 hs0 rfl rfl (sf_bd _) rfl rfl rfl (fun w146 Iw146 sw146 kw146 uw146 => ?_)
                    have c147 := sf_ma kw146 (p := 104) rfl
                    have c148 := sf_ma kw146 (p := 110) rfl
                    have c149 := sf_ma kw146 (p := 107) rfl
                    have c150 := sf_ma kw146 (p := 108) rfl
                    have c151 := sf_ma kw146 (p := 109) rfl
                    clear kw146
                    refine sf_aload rfl ?_
                    refine sf_geti Iw146 rfl rfl (fun v152 lv152 uv152 ev152 => ?_)
                    rw [uw146] at ev152
                    refine sf_f1_le (fun h153 => absurd h153 (by omega)) (fun h153 => ?_)
                    refine sf_iconst sf_c0 (fun z154 ez154 => ?_)
                    refine sf_ireturn rfl rfl ?_
                    exact hR _ _ Iw146 sw146 (by omega) (by omega) (by rw [uw146]; first | (refine Or.inl ⟨by omega, ?_⟩; omega) | (refine Or.inr (Or.inl ⟨by omega, ?_⟩); omega) | (refine Or.inr (Or.inr ⟨by omega, ?_⟩); omega)) (by rw [uw146]; rw [c149]; first | exact Or.inl ⟨by omega, rfl⟩ | exact Or.inr ⟨by omega, u107⟩) (by rw [uw146]; rw [c150]; first | exact Or.inl ⟨by omega, rfl⟩ | exact Or.inr ⟨by omega, u108⟩) (by rw [uw146]; rw [c151]; first | exact Or.inl ⟨by omega, rfl⟩ | exact Or.inr ⟨by omega, u109⟩) (by rw [uw146]; rw [c147]; exact Or.inl ⟨by omega, rfl⟩) (by rw [uw146]; rw [c148]; exact Or.inl ⟨by omega, rfl⟩)
                  · refine sf_iload rfl ?_
                    refine sf_iload rfl ?_
                    refine sf_iconst sf_c1 (fun z155 ez155 => ?_)
                    refine sf_f2_eq (fun h156 => ?_) (fun h156 => absurd h156 (by omega))
                    refine sf_iconst sf_cl1000000 (fun z157 ez157 => ?_)
                    refine sf_f2_gt (fun h158 => ?_) (fun h158 => ?_)
                    · refine sf_iconst sf_c0 (fun z159 ez159 => ?_)
                      refine sf_zreturn (by omega) rfl rfl ?_
                      refine sf_f1_eq (fun h160 => ?_) (fun h160 => absurd h160 (by omega))
                      refine sf_iconst sf_c0 (fun z161 ez161 => ?_)
                      refine sf_istore (L' := [(0, .inl (.ref 71)), (1, .inl (.int a_d)), (2, .inl (.int a_good)), (3, .inl (.int a_land)), (4, .inl (.int a_units)), (5, .inl (.int a_kilograms)), (6, .inl (.int a_price)), (7, .inl (.int a_held))]) rfl ?_
                      refine sf_aload rfl ?_
                      refine sf_iload rfl ?_
                      refine sf_f1_eq (fun h162 => ?_) (fun h162 => absurd h162 (by omega))
                      refine sf_iconst sf_c1 (fun z163 ez163 => ?_)
                      refine sf_puti hI0 hs0 rfl rfl (sf_bd _) rfl rfl rfl (fun w164 Iw164 sw164 kw164 uw164 => ?_)
                      have c165 := sf_ma kw164 (p := 104) rfl
                      have c166 := sf_ma kw164 (p := 110) rfl
                      have c167 := sf_ma kw164 (p := 107) rfl
                      have c168 := sf_ma kw164 (p := 108) rfl
                      have c169 := sf_ma kw164 (p := 109) rfl
                      clear kw164
                      refine sf_aload rfl ?_
                      refine sf_geti Iw164 rfl rfl (fun v170 lv170 uv170 ev170 => ?_)
                      rw [uw164] at ev170
                      refine sf_f1_le (fun h171 => absurd h171 (by omega)) (fun h171 => ?_)
                      refine sf_iconst sf_c0 (fun z172 ez172 => ?_)
                      refine sf_ireturn rfl rfl ?_
                      exact hR _ _ Iw164 sw164 (by omega) (by omega) (by rw [uw164]; first | (refine Or.inl ⟨by omega, ?_⟩; omega) | (refine Or.inr (Or.inl ⟨by omega, ?_⟩); omega) | (refine Or.inr (Or.inr ⟨by omega, ?_⟩); omega)) (by rw [uw164]; rw [c167]; first | exact Or.inl ⟨by omega, rfl⟩ | exact Or.inr ⟨by omega, u107⟩) (by rw [uw164]; rw [c168]; first | exact Or.inl ⟨by omega, rfl⟩ | exact Or.inr ⟨by omega, u108⟩) (by rw [uw164]; rw [c169]; first | exact Or.inl ⟨by omega, rfl⟩ | exact Or.inr ⟨by omega, u109⟩) (by rw [uw164]; rw [c165]; exact Or.inl ⟨by omega, rfl⟩) (by rw [uw164]; rw [c166]; exact Or.inl ⟨by omega, rfl⟩)
                    · refine sf_iconst sf_c1 (fun z173 ez173 => ?_)
                      refine sf_zreturn (by omega) rfl rfl ?_
                      refine sf_f1_eq (fun h174 => absurd h174 (by omega)) (fun h174 => ?_)
                      refine sf_iconst sf_c2 (fun z175 ez175 => ?_)
                      refine sf_iload rfl ?_
                      refine sf_call2 rfl rfl rfl ?_
                      refine sf_sp (L := [(0, .inl (.int z175)), (1, .inl (.int a_price))]) rfl rfl ?_
                      refine sf_iload rfl ?_
                      refine sf_f1_eq (fun h176 => absurd h176 (by omega)) (fun h176 => ?_)
                      refine sf_iload rfl ?_
                      refine sf_f1_lt (fun h177 => ?_) (fun h177 => ?_)
                      · refine sf_iconst sf_c0 (fun z178 ez178 => ?_)
                        refine sf_zreturn (by omega) rfl rfl ?_
                        refine sf_f1_eq (fun h179 => ?_) (fun h179 => absurd h179 (by omega))
                        refine sf_iconst sf_c0 (fun z180 ez180 => ?_)
                        refine sf_istore (L' := [(0, .inl (.ref 71)), (1, .inl (.int a_d)), (2, .inl (.int a_good)), (3, .inl (.int a_land)), (4, .inl (.int a_units)), (5, .inl (.int a_kilograms)), (6, .inl (.int a_price)), (7, .inl (.int a_held))]) rfl ?_
                        refine sf_aload rfl ?_
                        refine sf_iload rfl ?_
                        refine sf_f1_eq (fun h181 => ?_) (fun h181 => absurd h181 (by omega))
                        refine sf_iconst sf_c1 (fun z182 ez182 => ?_)
                        refine sf_puti hI0 hs0 rfl rfl (sf_bd _) rfl rfl rfl (fun w183 Iw183 sw183 kw183 uw183 => ?_)
                        have c184 := sf_ma kw183 (p := 104) rfl
                        have c185 := sf_ma kw183 (p := 110) rfl
                        have c186 := sf_ma kw183 (p := 107) rfl
                        have c187 := sf_ma kw183 (p := 108) rfl
                        have c188 := sf_ma kw183 (p := 109) rfl
                        clear kw183
                        refine sf_aload rfl ?_
                        refine sf_geti Iw183 rfl rfl (fun v189 lv189 uv189 ev189 => ?_)
                        rw [uw183] at ev189
                        refine sf_f1_le (fun h190 => absurd h190 (by omega)) (fun h190 => ?_)
                        refine sf_iconst sf_c0 (fun z191 ez191 => ?_)
                        refine sf_ireturn rfl rfl ?_
                        exact hR _ _ Iw183 sw183 (by omega) (by omega) (by rw [uw183]; first | (refine Or.inl ⟨by omega, ?_⟩; omega) | (refine Or.inr (Or.inl ⟨by omega, ?_⟩); omega) | (refine Or.inr (Or.inr ⟨by omega, ?_⟩); omega)) (by rw [uw183]; rw [c186]; first | exact Or.inl ⟨by omega, rfl⟩ | exact Or.inr ⟨by omega, u107⟩) (by rw [uw183]; rw [c187]; first | exact Or.inl ⟨by omega, rfl⟩ | exact Or.inr ⟨by omega, u108⟩) (by rw [uw183]; rw [c188]; first | exact Or.inl ⟨by omega, rfl⟩ | exact Or.inr ⟨by omega, u109⟩) (by rw [uw183]; rw [c184]; exact Or.inl ⟨by omega, rfl⟩) (by rw [uw183]; rw [c185]; exact Or.inl ⟨by omega, rfl⟩)
                      · refine sf_iload rfl ?_
                        refine sf_iload rfl ?_
                        refine sf_iconst sf_c1 (fun z192 ez192 => ?_)
                        refine sf_f2_eq (fun h193 => absurd h193 (by omega)) (fun h193 => ?_)
                        refine sf_iconst sf_cl100000000 (fun z194 ez194 => ?_)
                        refine sf_f2_gt (fun h195 => ?_) (fun h195 => ?_)
                        · refine sf_iconst sf_c0 (fun z196 ez196 => ?_)
                          refine sf_zreturn (by omega) rfl rfl ?_
                          refine sf_f1_eq (fun h197 => ?_) (fun h197 => absurd h197 (by omega))
                          refine sf_iconst sf_c0 (fun z198 ez198 => ?_)
                          refine sf_istore (L' := [(0, .inl (.ref 71)), (1, .inl (.int a_d)), (2, .inl (.int a_good)), (3, .inl (.int a_land)), (4, .inl (.int a_units)), (5, .inl (.int a_kilograms)), (6, .inl (.int a_price)), (7, .inl (.int a_held))]) rfl ?_
                          refine sf_aload rfl ?_
                          refine sf_iload rfl ?_
                          refine sf_f1_eq (fun h199 => ?_) (fun h199 => absurd h199 (by omega))
                          refine sf_iconst sf_c1 (fun z200 ez200 => ?_)
                          refine sf_puti hI0 hs0 rfl rfl (sf_bd _) rfl rfl rfl (fun w201 Iw201 sw201 kw201 uw201 => ?_)
                          have c202 := sf_ma kw201 (p := 104) rfl
                          have c203 := sf_ma kw201 (p := 110) rfl
                          have c204 := sf_ma kw201 (p := 107) rfl
                          have c205 := sf_ma kw201 (p := 108) rfl
                          have c206 := sf_ma kw201 (p := 109) rfl
                          clear kw201
                          refine sf_aload rfl ?_
                          refine sf_geti Iw201 rfl rfl (fun v207 lv207 uv207 ev207 => ?_)
                          rw [uw201] at ev207
                          refine sf_f1_le (fun h208 => absurd h208 (by omega)) (fun h208 => ?_)
                          refine sf_iconst sf_c0 (fun z209 ez209 => ?_)
                          refine sf_ireturn rfl rfl ?_
                          exact hR _ _ Iw201 sw201 (by omega) (by omega) (by rw [uw201]; first | (refine Or.inl ⟨by omega, ?_⟩; omega) | (refine Or.inr (Or.inl ⟨by omega, ?_⟩); omega) | (refine Or.inr (Or.inr ⟨by omega, ?_⟩); omega)) (by rw [uw201]; rw [c204]; first | exact Or.inl ⟨by omega, rfl⟩ | exact Or.inr ⟨by omega, u107⟩) (by rw [uw201]; rw [c205]; first | exact Or.inl ⟨by omega, rfl⟩ | exact Or.inr ⟨by omega, u108⟩) (by rw [uw201]; rw [c206]; first | exact Or.inl ⟨by omega, rfl⟩ | exact Or.inr ⟨by omega, u109⟩) (by rw [uw201]; rw [c202]; exact Or.inl ⟨by omega, rfl⟩) (by rw [uw201]; rw [c203]; exact Or.inl ⟨by omega, rfl⟩)
                        · refine sf_iconst sf_c1 (fun z210 ez210 => ?_)
                          refine sf_zreturn (by omega) rfl rfl ?_
                          refine sf_f1_eq (fun h211 => absurd h211 (by omega)) (fun h211 => ?_)
                          refine sf_iconst sf_c1 (fun z212 ez212 => ?_)
                          refine sf_istore (L' := [(0, .inl (.ref 71)), (1, .inl (.int a_d)), (2, .inl (.int a_good)), (3, .inl (.int a_land)), (4, .inl (.int a_units)), (5, .inl (.int a_kilograms)), (6, .inl (.int a_price)), (7, .inl (.int a_held))]) rfl ?_
                          refine sf_aload rfl ?_
                          refine sf_iload rfl ?_
                          refine sf_f1_eq (fun h213 => absurd h213 (by omega)) (fun h213 => ?_)
                          refine sf_aload rfl ?_
                          refine sf_getr hI0 rfl rfl ?_
                          refine sf_iload rfl ?_
                          refine sf_zald hI0 rfl (by omega) (fun v214 lv214 uv214 ev214 => ?_)
                          refine sf_f1_eq (fun h215 => ?_) (fun h215 => ?_)
                          · refine sf_aload rfl ?_
                            refine sf_getr hI0 rfl rfl ?_
                            refine sf_iload rfl ?_
                            refine sf_iald hI0 rfl (by omega) (fun v216 lv216 uv216 ev216 => ?_)
                            skip
                            refine sf_iconst sf_c4 (fun z217 ez217 => ?_)
                            refine sf_f2_eq (fun h218 => ?_) (fun h218 => ?_)
                            · refine sf_iconst sf_c2 (fun z219 ez219 => ?_)
                              refine sf_puti hI0 hs0 rfl rfl (sf_bd _) rfl rfl rfl (fun w220 Iw220 sw220 kw220 uw220 => ?_)
                              have c221 := sf_ma kw220 (p := 104) rfl
                              have c222 := sf_ma kw220 (p := 110) rfl
                              have c223 := sf_ma kw220 (p := 107) rfl
                              have c224 := sf_ma kw220 (p := 108) rfl
                              have c225 := sf_ma kw220 (p := 109) rfl
                              clear kw220
                              refine sf_aload rfl ?_
                              refine sf_geti Iw220 rfl rfl (fun v226 lv226 uv226 ev226 => ?_)
                              rw [uw220] at ev226
                              refine sf_f1_le (fun h227 => absurd h227 (by omega)) (fun h227 => ?_)
                              refine sf_iconst sf_c0 (fun z228 ez228 => ?_)
                              refine sf_ireturn rfl rfl ?_
                              exact hR _ _ Iw220 sw220 (by omega) (by omega) (by rw [uw220]; first | (refine Or.inl ⟨by omega, ?_⟩; omega) | (refine Or.inr (Or.inl ⟨by omega, ?_⟩); omega) | (refine Or.inr (Or.inr ⟨by omega, ?_⟩); omega)) (by rw [uw220]; rw [c223]; first | exact Or.inl ⟨by omega, rfl⟩ | exact Or.inr ⟨by omega, u107⟩) (by rw [uw220]; rw [c224]; first | exact Or.inl ⟨by omega, rfl⟩ | exact Or.inr ⟨by omega, u108⟩) (by rw [uw220]; rw [c225]; first | exact Or.inl ⟨by omega, rfl⟩ | exact Or.inr ⟨by omega, u109⟩) (by rw [uw220]; rw [c221]; exact Or.inl ⟨by omega, rfl⟩) (by rw [uw220]; rw [c222]; exact Or.inl ⟨by omega, rfl⟩)
                            · refine sf_iconst sf_c0 (fun z229 ez229 => ?_)
                              refine sf_puti hI0 hs0 rfl rfl (sf_bd _) rfl rfl rfl (fun w230 Iw230 sw230 kw230 uw230 => ?_)
                              have c231 := sf_ma kw230 (p := 104) rfl
                              have c232 := sf_ma kw230 (p := 110) rfl
                              have c233 := sf_ma kw230 (p := 107) rfl
                              have c234 := sf_ma kw230 (p := 108) rfl
                              have c235 := sf_ma kw230 (p := 109) rfl
                              clear kw230
                              refine sf_aload rfl ?_
                              refine sf_geti Iw230 rfl rfl (fun v236 lv236 uv236 ev236 => ?_)
                              rw [uw230] at ev236
                              refine sf_f1_le (fun h237 => ?_) (fun h237 => absurd h237 (by omega))
                              refine sf_iconst sf_c4 (fun z238 ez238 => ?_)
                              refine sf_iload rfl ?_
                              refine sf_imull (n := 4) (by omega) (by omega) (fun v239 ev239 => ?_)
                              refine sf_aload rfl ?_
                              refine sf_getr Iw230 rfl rfl ?_
                              refine sf_iload rfl ?_
                              refine sf_iald Iw230 rfl (by omega) (fun v240 lv240 uv240 ev240 => ?_)
                              rw [c231] at ev240
                              skip
                              refine sf_iadd (by omega) (fun v241 ev241 => ?_)
                              refine sf_istore (L' := [(8, .inl (.int z212)), (0, .inl (.ref 71)), (1, .inl (.int a_d)), (2, .inl (.int a_good)), (3, .inl (.int a_land)), (4, .inl (.int a_units)), (5, .inl (.int a_kilograms)), (6, .inl (.int a_price)), (7, .inl (.int a_held))]) rfl ?_
                              refine sf_aload rfl ?_
                              refine sf_getr Iw230 rfl rfl ?_
                              refine sf_iload rfl ?_
                              refine sf_iload rfl ?_
                              refine sf_iast Iw230 sw230 rfl (by omega) (by omega) rfl rfl (fun w242 Iw242 sw242 kw242 uw242 => ?_)
                              have c243 := sf_mf kw242 (p := 71) (j := 0) rfl
                              have c244 := sf_ma kw242 (p := 104) rfl
                              have c245 := sf_ma kw242 (p := 110) rfl
                              have c246 := sf_ma kw242 (p := 108) rfl
                              have c247 := sf_ma kw242 (p := 109) rfl
                              clear kw242
                              have u107 := uw242
                              rw [show v241.toInt = (4 * a_d.toInt + (sf_a w0 104 a_d.toInt.toNat).toInt) by omega] at u107
                              rw [c233] at u107
                              refine sf_aload rfl ?_
                              refine sf_getr Iw242 rfl rfl ?_
                              refine sf_iload rfl ?_
                              refine sf_iload rfl ?_
                              refine sf_iast Iw242 sw242 rfl (by omega) (sf_bd _) rfl rfl (fun w248 Iw248 sw248 kw248 uw248 => ?_)
                              have c249 := sf_mf kw248 (p := 71) (j := 0) rfl
                              have c250 := sf_ma kw248 (p := 104) rfl
                              have c251 := sf_ma kw248 (p := 110) rfl
                              have c252 := sf_ma kw248 (p := 107) rfl
                              have c253 := sf_ma kw248 (p := 109) rfl
                              clear kw248
                              have u108 := uw248
                              rw [show v241.toInt = (4 * a_d.toInt + (sf_a w0 104 a_d.toInt.toNat).toInt) by omega] at u108
                              rw [c246, c234] at u108
                              refine sf_aload rfl ?_
                              refine sf_getr Iw248 rfl rfl ?_
                              refine sf_iload rfl ?_
                              refine sf_iload rfl ?_
                              refine sf_zast Iw248 sw248 rfl (by omega) (by omega) rfl rfl (fun w254 Iw254 sw254 kw254 uw254 => ?_)
                              have c255 := sf_mf kw254 (p := 71) (j := 0) rfl
                              have c256 := sf_ma kw254 (p := 104) rfl
                              have c257 := sf_ma kw254 (p := 110) rfl
                              have c258 := sf_ma kw254 (p := 107) rfl
                              have c259 := sf_ma kw254 (p := 108) rfl
                              clear kw254
                              have u109 := uw254
                              rw [show v241.toInt = (4 * a_d.toInt + (sf_a w0 104 a_d.toInt.toNat).toInt) by omega] at u109
                              rw [c253, c247, c235] at u109
                              refine sf_aload rfl ?_
                              refine sf_getr Iw254 rfl rfl ?_
                              refine sf_iconst sf_c3 (fun z260 ez260 => ?_)
                              refine sf_iload rfl ?_
                              refine sf_imull (n := 3) (by omega) (by omega) (fun v261 ev261 => ?_)
                              refine sf_iload rfl ?_
                              refine sf_iastR Iw254 sw254 rfl (by omega) (sf_bd _) rfl (fun w9 h1 h2 => sf_R_fi Iw254 h1 h2 (by omega) (by omega)) (fun w262 Iw262 sw262 kw262 uw262 => ?_)
                              have c263 := sf_mf kw262 (p := 71) (j := 0) rfl
                              have c264 := sf_ma kw262 (p := 104) rfl
                              have c265 := sf_ma kw262 (p := 107) rfl
                              have c266 := sf_ma kw262 (p := 108) rfl
                              have c267 := sf_ma kw262 (p := 109) rfl
                              clear kw262
                              have gff : 1 ≤ (sf_a w262 110 (12 * a_d.toInt.toNat + 3 * (sf_a w0 104 a_d.toInt.toNat).toInt.toNat)).toInt := by first | (rw [uw262]; unfold upd; rw [if_pos (by omega)]; omega) | (rw [uw262]; unfold upd; rw [if_neg (by omega)]; exact gff)
                              have uf0 := uw262
                              rw [c257, c251, c245, c232] at uf0
                              rw [show v261.toInt.toNat = 3 * (4 * a_d.toInt + (sf_a w0 104 a_d.toInt.toNat).toInt).toNat + 0 by omega] at uf0
                              refine sf_aload rfl ?_
                              refine sf_getr Iw262 rfl rfl ?_
                              refine sf_iconst sf_c3 (fun z268 ez268 => ?_)
                              refine sf_iload rfl ?_
                              refine sf_imull (n := 3) (by omega) (by omega) (fun v269 ev269 => ?_)
                              refine sf_iconst sf_c1 (fun z270 ez270 => ?_)
                              refine sf_iadd (by omega) (fun v271 ev271 => ?_)
                              refine sf_iload rfl ?_
                              refine sf_iastR Iw262 sw262 rfl (by omega) (sf_bd _) rfl (fun w9 h1 h2 => sf_R_fi Iw262 h1 h2 (by omega) (by omega)) (fun w272 Iw272 sw272 kw272 uw272 => ?_)
                              have c273 := sf_mf kw272 (p := 71) (j := 0) rfl
                              have c274 := sf_ma kw272 (p := 104) rfl
                              have c275 := sf_ma kw272 (p := 107) rfl
                              have c276 := sf_ma kw272 (p := 108) rfl
                              have c277 := sf_ma kw272 (p := 109) rfl
                              clear kw272
                              have gff : 1 ≤ (sf_a w272 110 (12 * a_d.toInt.toNat + 3 * (sf_a w0 104 a_d.toInt.toNat).toInt.toNat)).toInt := by first | (rw [uw272]; unfold upd; rw [if_pos (by omega)]; omega) | (rw [uw272]; unfold upd; rw [if_neg (by omega)]; exact gff)
                              have uf1 := uw272
                              skip
                              rw [show v271.toInt.toNat = 3 * (4 * a_d.toInt + (sf_a w0 104 a_d.toInt.toNat).toInt).toNat + 1 by omega] at uf1
                              refine sf_aload rfl ?_
                              refine sf_getr Iw272 rfl rfl ?_
                              refine sf_iconst sf_c3 (fun z278 ez278 => ?_)
                              refine sf_iload rfl ?_
                              refine sf_imull (n := 3) (by omega) (by omega) (fun v279 ev279 => ?_)
                              refine sf_iconst sf_c2 (fun z280 ez280 => ?_)
                              refine sf_iadd (by omega) (fun v281 ev281 => ?_)
                              refine sf_iload rfl ?_
                              refine sf_iastR Iw272 sw272 rfl (by omega) (sf_bd _) rfl (fun w9 h1 h2 => sf_R_fi Iw272 h1 h2 (by omega) (by omega)) (fun w282 Iw282 sw282 kw282 uw282 => ?_)
                              have c283 := sf_mf kw282 (p := 71) (j := 0) rfl
                              have c284 := sf_ma kw282 (p := 104) rfl
                              have c285 := sf_ma kw282 (p := 107) rfl
                              have c286 := sf_ma kw282 (p := 108) rfl
                              have c287 := sf_ma kw282 (p := 109) rfl
                              clear kw282
                              have gff : 1 ≤ (sf_a w282 110 (12 * a_d.toInt.toNat + 3 * (sf_a w0 104 a_d.toInt.toNat).toInt.toNat)).toInt := by first | (rw [uw282]; unfold upd; rw [if_pos (by omega)]; omega) | (rw [uw282]; unfold upd; rw [if_neg (by omega)]; exact gff)
                              have uf2 := uw282
                              skip
                              rw [show v281.toInt.toNat = 3 * (4 * a_d.toInt + (sf_a w0 104 a_d.toInt.toNat).toInt).toNat + 2 by omega] at uf2
                              refine sf_aload rfl ?_
                              refine sf_getr Iw282 rfl rfl ?_
                              refine sf_iload rfl ?_
                              refine sf_dup2 rfl rfl ?_
                              refine sf_iald Iw282 rfl (by omega) (fun v288 lv288 uv288 ev288 => ?_)
                              rw [c284, c274, c264, c256, c250, c244, c231] at ev288
                              skip
                              refine sf_iconst sf_c1 (fun z289 ez289 => ?_)
                              refine sf_iadd (by omega) (fun v290 ev290 => ?_)
                              refine sf_iastR Iw282 sw282 rfl (by omega) (by omega) rfl (fun w9 h1 h2 => sf_R_lc Iw282 h1 h2 (by omega) (fun k hk => by by_cases hk2 : (k : Int) < (sf_a w0 104 a_d.toInt.toNat).toInt; (left; rw [c284, c274, c264, c256, c250, c244, c231]; exact hk2); (right; have hk3 : k = (sf_a w0 104 a_d.toInt.toNat).toInt.toNat := (by omega); rw [hk3]; exact gff))) (fun w291 Iw291 sw291 kw291 uw291 => ?_)
                              have c292 := sf_mf kw291 (p := 71) (j := 0) rfl
                              have c293 := sf_ma kw291 (p := 110) rfl
                              have c294 := sf_ma kw291 (p := 107) rfl
                              have c295 := sf_ma kw291 (p := 108) rfl
                              have c296 := sf_ma kw291 (p := 109) rfl
                              clear kw291
                              have uL := uw291
                              rw [c284, c274, c264, c256, c250, c244, c231] at uL
                              have vL : v290.toInt = (sf_a w0 104 a_d.toInt.toNat).toInt + 1 := by omega
                              refine sf_aload rfl ?_
                              refine sf_getr Iw291 rfl rfl ?_
                              refine sf_iload rfl ?_
                              refine sf_iald Iw291 rfl (by omega) (fun v297 lv297 uv297 ev297 => ?_)
                              rw [uL, sf_uu, if_pos rfl] at ev297
                              refine sf_iconst sf_c1 (fun z298 ez298 => ?_)
                              refine sf_isub (by omega) (fun v299 ev299 => ?_)
                              refine sf_ireturn rfl rfl ?_
                              exact hR _ _ Iw291 sw291 (by omega) (by omega) (by rw [c292, c283, c273, c263, c255, c249, c243, uw230]; first | (refine Or.inl ⟨by omega, ?_⟩; omega) | (refine Or.inr (Or.inl ⟨by omega, ?_⟩); omega) | (refine Or.inr (Or.inr ⟨by omega, ?_⟩); omega)) (by rw [c292, c283, c273, c263, c255, c249, c243, uw230]; rw [c294, c285, c275, c265, c258, c252]; first | exact Or.inl ⟨by omega, rfl⟩ | exact Or.inr ⟨by omega, u107⟩) (by rw [c292, c283, c273, c263, c255, c249, c243, uw230]; rw [c295, c286, c276, c266, c259]; first | exact Or.inl ⟨by omega, rfl⟩ | exact Or.inr ⟨by omega, u108⟩) (by rw [c292, c283, c273, c263, c255, c249, c243, uw230]; rw [c296, c287, c277, c267]; first | exact Or.inl ⟨by omega, rfl⟩ | exact Or.inr ⟨by omega, u109⟩) (by rw [c292, c283, c273, c263, c255, c249, c243, uw230]; exact Or.inr ⟨by omega, _, vL, uL⟩) (by rw [c292, c283, c273, c263, c255, c249, c243, uw230]; rw [c293]; exact Or.inr ⟨by omega, sl_U3s uf0 uf1 uf2⟩)
                          · refine sf_iconst sf_c2 (fun z300 ez300 => ?_)
                            refine sf_puti hI0 hs0 rfl rfl (sf_bd _) rfl rfl rfl (fun w301 Iw301 sw301 kw301 uw301 => ?_)
                            have c302 := sf_ma kw301 (p := 104) rfl
                            have c303 := sf_ma kw301 (p := 110) rfl
                            have c304 := sf_ma kw301 (p := 107) rfl
                            have c305 := sf_ma kw301 (p := 108) rfl
                            have c306 := sf_ma kw301 (p := 109) rfl
                            clear kw301
                            refine sf_aload rfl ?_
                            refine sf_geti Iw301 rfl rfl (fun v307 lv307 uv307 ev307 => ?_)
                            rw [uw301] at ev307
                            refine sf_f1_le (fun h308 => absurd h308 (by omega)) (fun h308 => ?_)
                            refine sf_iconst sf_c0 (fun z309 ez309 => ?_)
                            refine sf_ireturn rfl rfl ?_
                            exact hR _ _ Iw301 sw301 (by omega) (by omega) (by rw [uw301]; first | (refine Or.inl ⟨by omega, ?_⟩; omega) | (refine Or.inr (Or.inl ⟨by omega, ?_⟩); omega) | (refine Or.inr (Or.inr ⟨by omega, ?_⟩); omega)) (by rw [uw301]; rw [c304]; first | exact Or.inl ⟨by omega, rfl⟩ | exact Or.inr ⟨by omega, u107⟩) (by rw [uw301]; rw [c305]; first | exact Or.inl ⟨by omega, rfl⟩ | exact Or.inr ⟨by omega, u108⟩) (by rw [uw301]; rw [c306]; first | exact Or.inl ⟨by omega, rfl⟩ | exact Or.inr ⟨by omega, u109⟩) (by rw [uw301]; rw [c302]; exact Or.inl ⟨by omega, rfl⟩) (by rw [uw301]; rw [c303]; exact Or.inl ⟨by omega, rfl⟩)
def sm_M_charge : List Nat := [71, 105, 8100]
set_option maxRecDepth 100000 in
set_option maxHeartbeats 4000000 in
theorem sc_M_charge {w0 : wq_W} (hI0 : sf_I w0) {rt : Option wq_V → wq_W → Prop} {xt : Nat → wq_W → Prop} {a_d : Int32} {a_by : Int32} {a_cents : Int32}  (hR : ∀ (w : wq_W), sf_I w → sf_m sm_M_charge w0 w → ((((sf_f w 71 0).toInt = 0 ∧ (0 ≤ a_d.toInt ∧ a_d.toInt < (sf_f w0 71 35).toInt ∧ 0 ≤ a_by.toInt ∧ a_by.toInt ≤ 1 ∧ 0 ≤ a_cents.toInt ∧ a_cents.toInt ≤ 10000000) ∧ ((sf_a w0 106 a_d.toInt.toNat).toInt = 0) ∧ a_d.toInt = a_d.toInt) ∨ ((sf_f w 71 0).toInt = 1 ∧ ¬ (0 ≤ a_d.toInt ∧ a_d.toInt < (sf_f w0 71 35).toInt ∧ 0 ≤ a_by.toInt ∧ a_by.toInt ≤ 1 ∧ 0 ≤ a_cents.toInt ∧ a_cents.toInt ≤ 10000000)) ∨ ((sf_f w 71 0).toInt = 2 ∧ (0 ≤ a_d.toInt ∧ a_d.toInt < (sf_f w0 71 35).toInt ∧ 0 ≤ a_by.toInt ∧ a_by.toInt ≤ 1 ∧ 0 ≤ a_cents.toInt ∧ a_cents.toInt ≤ 10000000) ∧ ¬ ((sf_a w0 106 a_d.toInt.toNat).toInt = 0)))) → rt none w) : ks_M_charge [.inl (.ref 71), .inl (.int a_d), .inl (.int a_by), .inl (.int a_cents)] w0 rt xt := by
  have hs0 : sf_m sm_M_charge w0 w0 := sf_m0
  refine sf_sp (L := [(0, .inl (.ref 71)), (1, .inl (.int a_d)), (2, .inl (.int a_by)), (3, .inl (.int a_cents))]) rfl rfl ?_
  refine sf_aload rfl ?_
  refine sf_aload rfl ?_
  refine sf_iload rfl ?_
  refine sf_call2 rfl rfl rfl ?_
  refine sf_rv hI0 rfl ?_
  refine sf_sp (L := [(0, .inl (.ref 71)), (1, .inl (.int a_d))]) rfl rfl ?_
  refine sf_iload rfl ?_
  refine sf_f1_lt (fun h1 => ?_) (fun h1 => ?_)
  · refine sf_iconst sf_c0 (fun z2 ez2 => ?_)
    refine sf_zreturn (by omega) rfl rfl ?_
    refine sf_f1_eq (fun h3 => ?_) (fun h3 => absurd h3 (by omega))
    refine sf_iconst sf_c1 (fun z4 ez4 => ?_)
    refine sf_puti hI0 hs0 rfl rfl (sf_bd _) rfl rfl rfl (fun w5 Iw5 sw5 kw5 uw5 => ?_)
    clear kw5
    refine sf_aload rfl ?_
    refine sf_geti Iw5 rfl rfl (fun v6 lv6 uv6 ev6 => ?_)
    rw [uw5] at ev6
    refine sf_f1_eq (fun h7 => absurd h7 (by omega)) (fun h7 => ?_)
    refine sf_vreturn rfl rfl ?_
    exact hR _ Iw5 sw5 (by rw [uw5]; first | (refine Or.inl ⟨by omega, ?_⟩; omega) | (refine Or.inr (Or.inl ⟨by omega, ?_⟩); omega) | (refine Or.inr (Or.inr ⟨by omega, ?_⟩); omega))
  · refine sf_iload rfl ?_
    refine sf_aload rfl ?_
    refine sf_geti hI0 rfl rfl (fun v8 lv8 uv8 ev8 => ?_)
    refine sf_f2_ge (fun h9 => ?_) (fun h9 => ?_)
    · refine sf_iconst sf_c0 (fun z10 ez10 => ?_)
      refine sf_zreturn (by omega) rfl rfl ?_
      refine sf_f1_eq (fun h11 => ?_) (fun h11 => absurd h11 (by omega))
      refine sf_iconst sf_c1 (fun z12 ez12 => ?_)
      refine sf_puti hI0 hs0 rfl rfl (sf_bd _) rfl rfl rfl (fun w13 Iw13 sw13 kw13 uw13 => ?_)
      clear kw13
      refine sf_aload rfl ?_
      refine sf_geti Iw13 rfl rfl (fun v14 lv14 uv14 ev14 => ?_)
      rw [uw13] at ev14
      refine sf_f1_eq (fun h15 => absurd h15 (by omega)) (fun h15 => ?_)
      refine sf_vreturn rfl rfl ?_
      exact hR _ Iw13 sw13 (by rw [uw13]; first | (refine Or.inl ⟨by omega, ?_⟩; omega) | (refine Or.inr (Or.inl ⟨by omega, ?_⟩); omega) | (refine Or.inr (Or.inr ⟨by omega, ?_⟩); omega))
    · refine sf_iconst sf_c1 (fun z16 ez16 => ?_)
      refine sf_zreturn (by omega) rfl rfl ?_
      refine sf_f1_eq (fun h17 => absurd h17 (by omega)) (fun h17 => ?_)
      refine sf_iload rfl ?_
      refine sf_iconst sf_c0 (fun z18 ez18 => ?_)
      refine sf_iconst sf_c1 (fun z19 ez19 => ?_)
      refine sf_call3 rfl rfl rfl ?_
      refine sf_sp (L := [(0, .inl (.int a_by)), (1, .inl (.int z18)), (2, .inl (.int z19))]) rfl rfl ?_
      refine sf_iload rfl ?_
      refine sf_iload rfl ?_
      refine sf_f2_lt (fun h20 => ?_) (fun h20 => ?_)
      · refine sf_iconst sf_c0 (fun z21 ez21 => ?_)
        refine sf_zreturn (by omega) rfl rfl ?_
        refine sf_f1_eq (fun h22 => ?_) (fun h22 => absurd h22 (by omega))
        refine sf_iconst sf_c1 (fun z23 ez23 => ?_)
        refine sf_puti hI0 hs0 rfl rfl (sf_bd _) rfl rfl rfl (fun w24 Iw24 sw24 kw24 uw24 => ?_)
        clear kw24
        refine sf_aload rfl ?_
        refine sf_geti Iw24 rfl rfl (fun v25 lv25 uv25 ev25 => ?_)
        rw [uw24] at ev25
        refine sf_f1_eq (fun h26 => absurd h26 (by omega)) (fun h26 => ?_)
        refine sf_vreturn rfl rfl ?_
        exact hR _ Iw24 sw24 (by rw [uw24]; first | (refine Or.inl ⟨by omega, ?_⟩; omega) | (refine Or.inr (Or.inl ⟨by omega, ?_⟩); omega) | (refine Or.inr (Or.inr ⟨by omega, ?_⟩); omega))
      · refine sf_iload rfl ?_
        refine sf_iload rfl ?_
        refine sf_f2_gt (fun h27 => ?_) (fun h27 => ?_)
        · refine sf_iconst sf_c0 (fun z28 ez28 => ?_)
          refine sf_zreturn (by omega) rfl rfl ?_
          refine sf_f1_eq (fun h29 => ?_) (fun h29 => absurd h29 (by omega))
          refine sf_iconst sf_c1 (fun z30 ez30 => ?_)
          refine sf_puti hI0 hs0 rfl rfl (sf_bd _) rfl rfl rfl (fun w31 Iw31 sw31 kw31 uw31 => ?_)
          clear kw31
          refine sf_aload rfl ?_
          refine sf_geti Iw31 rfl rfl (fun v32 lv32 uv32 ev32 => ?_)
          rw [uw31] at ev32
          refine sf_f1_eq (fun h33 => absurd h33 (by omega)) (fun h33 => ?_)
          refine sf_vreturn rfl rfl ?_
          exact hR _ Iw31 sw31 (by rw [uw31]; first | (refine Or.inl ⟨by omega, ?_⟩; omega) | (refine Or.inr (Or.inl ⟨by omega, ?_⟩); omega) | (refine Or.inr (Or.inr ⟨by omega, ?_⟩); omega))
        · refine sf_iconst sf_c1 (fun z34 ez34 => ?_)
          refine sf_zreturn (by omega) rfl rfl ?_
          refine sf_f1_eq (fun h35 => absurd h35 (by omega)) (fun h35 => ?_)
          refine sf_iload rfl ?_
          refine sf_iconst sf_c0 (fun z36 ez36 => ?_)
          refine sf_iconst sf_cl10000000 (fun z37 ez37 => ?_)
          refine sf_call3 rfl rfl rfl ?_
          refine sf_sp (L := [(0, .inl (.int a_cents)), (1, .inl (.int z36)), (2, .inl (.int z37))]) rfl rfl ?_
          refine sf_iload rfl ?_
          refine sf_iload rfl ?_
          refine sf_f2_lt (fun h38 => ?_) (fun h38 => ?_)
          · refine sf_iconst sf_c0 (fun z39 ez39 => ?_)
            refine sf_zreturn (by omega) rfl rfl ?_
            refine sf_f1_eq (fun h40 => ?_) (fun h40 => absurd h40 (by omega))
            refine sf_iconst sf_c1 (fun z41 ez41 => ?_)
            refine sf_puti hI0 hs0 rfl rfl (sf_bd _) rfl rfl rfl (fun w42 Iw42 sw42 kw42 uw42 => ?_)
            clear kw42
            refine sf_aload rfl ?_
            refine sf_geti Iw42 rfl rfl (fun v43 lv43 uv43 ev43 => ?_)
            rw [uw42] at ev43
            refine sf_f1_eq (fun h44 => absurd h44 (by omega)) (fun h44 => ?_)
            refine sf_vreturn rfl rfl ?_
            exact hR _ Iw42 sw42 (by rw [uw42]; first | (refine Or.inl ⟨by omega, ?_⟩; omega) | (refine Or.inr (Or.inl ⟨by omega, ?_⟩); omega) | (refine Or.inr (Or.inr ⟨by omega, ?_⟩); omega))
          · refine sf_iload rfl ?_
            refine sf_iload rfl ?_
            refine sf_f2_gt (fun h45 => ?_) (fun h45 => ?_)
            · refine sf_iconst sf_c0 (fun z46 ez46 => ?_)
              refine sf_zreturn (by omega) rfl rfl ?_
              refine sf_f1_eq (fun h47 => ?_) (fun h47 => absurd h47 (by omega))
              refine sf_iconst sf_c1 (fun z48 ez48 => ?_)
              refine sf_puti hI0 hs0 rfl rfl (sf_bd _) rfl rfl rfl (fun w49 Iw49 sw49 kw49 uw49 => ?_)
              clear kw49
              refine sf_aload rfl ?_
              refine sf_geti Iw49 rfl rfl (fun v50 lv50 uv50 ev50 => ?_)
              rw [uw49] at ev50
              refine sf_f1_eq (fun h51 => absurd h51 (by omega)) (fun h51 => ?_)
              refine sf_vreturn rfl rfl ?_
              exact hR _ Iw49 sw49 (by rw [uw49]; first | (refine Or.inl ⟨by omega, ?_⟩; omega) | (refine Or.inr (Or.inl ⟨by omega, ?_⟩); omega) | (refine Or.inr (Or.inr ⟨by omega, ?_⟩); omega))
            · refine sf_iconst sf_c1 (fun z52 ez52 => ?_)
              refine sf_zreturn (by omega) rfl rfl ?_
              refine sf_f1_eq (fun h53 => absurd h53 (by omega)) (fun h53 => ?_)
              refine sf_aload rfl ?_
              refine sf_getr hI0 rfl rfl ?_
              refine sf_iload rfl ?_
              refine sf_zald hI0 rfl (by omega) (fun v54 lv54 uv54 ev54 => ?_)
              refine sf_f1_eq (fun h55 => ?_) (fun h55 => ?_)
              · refine sf_iconst sf_c0 (fun z56 ez56 => ?_)
                refine sf_puti hI0 hs0 rfl rfl (sf_bd _) rfl rfl rfl (fun w57 Iw57 sw57 kw57 uw57 => ?_)
                clear kw57
                refine sf_aload rfl ?_
                refine sf_geti Iw57 rfl rfl (fun v58 lv58 uv58 ev58 => ?_)
                rw [uw57] at ev58
                refine sf_f1_eq (fun h59 => ?_) (fun h59 => absurd h59 (by omega))
                refine sf_aload rfl ?_
                refine sf_getr Iw57 rfl rfl ?_
                refine sf_iconst sf_c2 (fun z60 ez60 => ?_)
                refine sf_iload rfl ?_
                refine sf_imull (n := 2) (by omega) (by omega) (fun v61 ev61 => ?_)
                refine sf_iload rfl ?_
                refine sf_iadd (by omega) (fun v62 ev62 => ?_)
                refine sf_iload rfl ?_
                refine sf_iast Iw57 sw57 rfl (by omega) (sf_bd _) rfl rfl (fun w63 Iw63 sw63 kw63 uw63 => ?_)
                have c64 := sf_mf kw63 (p := 71) (j := 0) rfl
                clear kw63 uw63
                refine sf_vreturn rfl rfl ?_
                exact hR _ Iw63 sw63 (by rw [c64, uw57]; first | (refine Or.inl ⟨by omega, ?_⟩; omega) | (refine Or.inr (Or.inl ⟨by omega, ?_⟩); omega) | (refine Or.inr (Or.inr ⟨by omega, ?_⟩); omega))
              · refine sf_iconst sf_c2 (fun z65 ez65 => ?_)
                refine sf_puti hI0 hs0 rfl rfl (sf_bd _) rfl rfl rfl (fun w66 Iw66 sw66 kw66 uw66 => ?_)
                clear kw66
                refine sf_aload rfl ?_
                refine sf_geti Iw66 rfl rfl (fun v67 lv67 uv67 ev67 => ?_)
                rw [uw66] at ev67
                refine sf_f1_eq (fun h68 => absurd h68 (by omega)) (fun h68 => ?_)
                refine sf_vreturn rfl rfl ?_
                exact hR _ Iw66 sw66 (by rw [uw66]; first | (refine Or.inl ⟨by omega, ?_⟩; omega) | (refine Or.inr (Or.inl ⟨by omega, ?_⟩); omega) | (refine Or.inr (Or.inr ⟨by omega, ?_⟩); omega))
