def sm_W_heading_0_130 : List Nat := [1, 2, 3, 4, 130, 1100]
set_option maxRecDepth 100000 in
set_option maxHeartbeats 4000000 in
theorem sc_W_heading_0_130 {w0 : wq_W} (hI0 : sf_I w0) {rt : Option wq_V → wq_W → Prop} {xt : Nat → wq_W → Prop} {a_l1 : Int32}  (hR : ∀ (r : Int32) (w : wq_W), sf_I w → sf_m sm_W_heading_0_130 w0 w → 0 ≤ r.toInt → r.toInt ≤ 2 → (((r.toInt = 0 ∧ (a_l1.toInt = -1 ∨ (0 ≤ a_l1.toInt ∧ a_l1.toInt < (sf_f w0 1 0).toInt)) ∧ ((sf_f w0 1 0).toInt < 24 ∧ (a_l1.toInt = -1 ∨ (sf_a w0 3 a_l1.toInt.toNat).toInt < 5)) ∧ (sf_f w 1 0).toInt = (sf_f w0 1 0).toInt + 1 ∧ (sf_l w 130 0).toInt = (sf_f w0 1 0).toInt) ∨ (r.toInt = 1 ∧ ¬ (a_l1.toInt = -1 ∨ (0 ≤ a_l1.toInt ∧ a_l1.toInt < (sf_f w0 1 0).toInt)) ∧ (sf_f w 1 0).toInt = (sf_f w0 1 0).toInt) ∨ (r.toInt = 2 ∧ (a_l1.toInt = -1 ∨ (0 ≤ a_l1.toInt ∧ a_l1.toInt < (sf_f w0 1 0).toInt)) ∧ ¬ ((sf_f w0 1 0).toInt < 24 ∧ (a_l1.toInt = -1 ∨ (sf_a w0 3 a_l1.toInt.toNat).toInt < 5)) ∧ (sf_f w 1 0).toInt = (sf_f w0 1 0).toInt))) → (sf_F2 (sf_a w0 3) (sf_a w 3) (sf_f w0 1 0).toInt r.toInt a_l1) → rt (some (.inl (.int r))) w) : ks_W_heading [.inl (.ref 0), .inl (.int a_l1), .inl (.ref 130)] w0 rt xt := by
  have hs0 : sf_m sm_W_heading_0_130 w0 w0 := sf_m0
  refine sf_sp (L := [(0, .inl (.ref 0)), (1, .inl (.int a_l1)), (2, .inl (.ref 130))]) rfl rfl ?_
  refine sf_aload rfl ?_
  refine sf_iconst sf_c0 (fun z1 ez1 => ?_)
  refine sf_aload rfl ?_
  refine sf_iload rfl ?_
  refine sf_call2 rfl rfl rfl ?_
  refine sf_rv hI0 rfl ?_
  refine sf_sp (L := [(0, .inl (.ref 0)), (1, .inl (.int a_l1))]) rfl rfl ?_
  refine sf_iload rfl ?_
  refine sf_iconst sf_cm1 (fun z2 ez2 => ?_)
  refine sf_f2_eq (fun h3 => ?_) (fun h3 => ?_)
  · refine sf_iconst sf_c1 (fun z4 ez4 => ?_)
    refine sf_call1 rfl rfl rfl ?_
    refine sf_sp (L := [(0, .inl (.int z4))]) rfl rfl ?_
    refine sf_iload rfl ?_
    refine sf_f1_eq (fun h5 => absurd h5 (by omega)) (fun h5 => ?_)
    refine sf_vreturn rfl rfl ?_
    refine sf_aload rfl ?_
    refine sf_getr hI0 rfl rfl ?_
    refine sf_geti hI0 rfl rfl (fun v6 lv6 uv6 ev6 => ?_)
    refine sf_iconst sf_c24 (fun z7 ez7 => ?_)
    refine sf_f2_ge (fun h8 => ?_) (fun h8 => ?_)
    · refine sf_iconst sf_c0 (fun z9 ez9 => ?_)
      refine sf_call1 rfl rfl rfl ?_
      refine sf_sp (L := [(0, .inl (.int z9))]) rfl rfl ?_
      refine sf_iload rfl ?_
      refine sf_f1_eq (fun h10 => ?_) (fun h10 => absurd h10 (by omega))
      refine sf_throw rfl rfl ?_
      refine sf_xout rfl rfl ?_
      refine sf_xhm rfl ?_
      refine sf_xhh (L' := [(0, .inl (.ref 0)), (1, .inl (.int a_l1)), (2, .inl (.ref 130))]) rfl rfl ?_
      refine sf_iconst sf_c2 (fun z11 ez11 => ?_)
      refine sf_ireturn rfl rfl ?_
      exact hR _ _ hI0 hs0 (by omega) (by omega) (by first | (refine Or.inl ⟨by omega, ?_⟩; omega) | (refine Or.inr (Or.inl ⟨by omega, ?_⟩); omega) | (refine Or.inr (Or.inr ⟨by omega, ?_⟩); omega)) (by first | exact Or.inl ⟨by omega, rfl⟩ | (obtain ⟨dv, gy⟩ := gx; exact Or.inr ⟨dv, by omega, gy⟩))
    · refine sf_iconst sf_c1 (fun z12 ez12 => ?_)
      refine sf_call1 rfl rfl rfl ?_
      refine sf_sp (L := [(0, .inl (.int z12))]) rfl rfl ?_
      refine sf_iload rfl ?_
      refine sf_f1_eq (fun h13 => absurd h13 (by omega)) (fun h13 => ?_)
      refine sf_vreturn rfl rfl ?_
      refine sf_aload rfl ?_
      refine sf_getr hI0 rfl rfl ?_
      refine sf_iload rfl ?_
      refine sf_call2 rfl rfl rfl ?_
      refine sf_rv hI0 rfl ?_
      refine sf_sp (L := [(0, .inl (.ref 1)), (1, .inl (.int a_l1))]) rfl rfl ?_
      refine sf_iload rfl ?_
      refine sf_iconst sf_cm1 (fun z14 ez14 => ?_)
      refine sf_f2_eq (fun h15 => ?_) (fun h15 => absurd h15 (by omega))
      refine sf_iconst sf_c0 (fun z16 ez16 => ?_)
      refine sf_ireturn rfl rfl ?_
      refine sf_iconst sf_c5 (fun z17 ez17 => ?_)
      refine sf_f2_gt (fun h18 => absurd h18 (by omega)) (fun h18 => ?_)
      refine sf_iconst sf_c1 (fun z19 ez19 => ?_)
      refine sf_call1 rfl rfl rfl ?_
      refine sf_sp (L := [(0, .inl (.int z19))]) rfl rfl ?_
      refine sf_iload rfl ?_
      refine sf_f1_eq (fun h20 => absurd h20 (by omega)) (fun h20 => ?_)
      refine sf_vreturn rfl rfl ?_
      refine sf_aload rfl ?_
      refine sf_getr hI0 rfl rfl ?_
      refine sf_iload rfl ?_
      refine sf_call2 rfl rfl rfl ?_
      refine sf_rv hI0 rfl ?_
      refine sf_sp (L := [(0, .inl (.ref 1)), (1, .inl (.int a_l1))]) rfl rfl ?_
      refine sf_aload rfl ?_
      refine sf_geti hI0 rfl rfl (fun v21 lv21 uv21 ev21 => ?_)
      refine sf_istore (L' := [(0, .inl (.ref 1)), (1, .inl (.int a_l1))]) rfl ?_
      refine sf_aload rfl ?_
      refine sf_getr hI0 rfl rfl ?_
      refine sf_iload rfl ?_
      refine sf_iload rfl ?_
      refine sf_iast hI0 hs0 rfl (by omega) (by omega) rfl rfl (fun w22 Iw22 sw22 kw22 uw22 => ?_)
      have c23 := sf_mf kw22 (p := 1) (j := 0) rfl
      have c24 := sf_ma kw22 (p := 3) rfl
      clear kw22 uw22
      refine sf_aload rfl ?_
      refine sf_getr Iw22 rfl rfl ?_
      refine sf_iload rfl ?_
      refine sf_aload rfl ?_
      refine sf_iload rfl ?_
      refine sf_call2 rfl rfl rfl ?_
      refine sf_rv Iw22 rfl ?_
      refine sf_sp (L := [(0, .inl (.ref 1)), (1, .inl (.int a_l1))]) rfl rfl ?_
      refine sf_iload rfl ?_
      refine sf_iconst sf_cm1 (fun z25 ez25 => ?_)
      refine sf_f2_eq (fun h26 => ?_) (fun h26 => absurd h26 (by omega))
      refine sf_iconst sf_c0 (fun z27 ez27 => ?_)
      refine sf_ireturn rfl rfl ?_
      have g3 := c24
      refine sf_iast Iw22 sw22 rfl (by omega) (by omega) rfl rfl (fun w28 Iw28 sw28 kw28 uw28 => ?_)
      have c29 := sf_mf kw28 (p := 1) (j := 0) rfl
      clear kw28
      have gd := uw28
      have gi : v21.toInt = (sf_f w0 1 0).toInt := by omega
      rw [gi, g3] at gd
      have gx : ∃ dv : Int32, sf_a w28 3 = upd (sf_a w0 3) (sf_f w0 1 0).toInt.toNat dv ∧ (a_l1.toInt = -1 → dv.toInt = 0) ∧ (0 ≤ a_l1.toInt → dv.toInt = (sf_a w0 3 a_l1.toInt.toNat).toInt + 1) ∧ 0 ≤ dv.toInt ∧ dv.toInt ≤ 5 := ⟨z27, gd, by omega, by omega, by omega, by omega⟩
      refine sf_aload rfl ?_
      refine sf_getr Iw28 rfl rfl ?_
      refine sf_iload rfl ?_
      refine sf_iconst sf_cm1 (fun z30 ez30 => ?_)
      refine sf_iast Iw28 sw28 rfl (by omega) (sf_bd _) rfl rfl (fun w31 Iw31 sw31 kw31 uw31 => ?_)
      have c32 := sf_mf kw31 (p := 1) (j := 0) rfl
      have c33 := sf_ma kw31 (p := 3) rfl
      clear kw31 uw31
      refine sf_aload rfl ?_
      refine sf_dup rfl ?_
      refine sf_geti Iw31 rfl rfl (fun v34 lv34 uv34 ev34 => ?_)
      rw [c32, c29, c23] at ev34
      refine sf_iconst sf_c1 (fun z35 ez35 => ?_)
      refine sf_iadd (by omega) (fun v36 ev36 => ?_)
      refine sf_puti Iw31 sw31 rfl rfl (by omega) rfl rfl rfl (fun w37 Iw37 sw37 kw37 uw37 => ?_)
      have c38 := sf_ma kw37 (p := 3) rfl
      clear kw37
      refine sf_iload rfl ?_
      refine sf_ireturn rfl rfl ?_
      refine sf_ireturn rfl rfl ?_
      refine sf_i2l (fun v39 ev39 => ?_)
      refine sf_last Iw37 sw37 rfl (by omega) rfl rfl (fun w40 Iw40 sw40 kw40 uw40 => ?_)
      have c41 := sf_mf kw40 (p := 1) (j := 0) rfl
      have c42 := sf_ma kw40 (p := 3) rfl
      clear kw40
      have go : (sf_l w40 130 0).toInt = v39.toInt := by rw [uw40, show z1.toInt.toNat = 0 by omega]; unfold vp_updL; rw [if_pos rfl]
      refine sf_iconst sf_c0 (fun z43 ez43 => ?_)
      refine sf_ireturn rfl rfl ?_
      exact hR _ _ Iw40 sw40 (by omega) (by omega) (by rw [c41, uw37]; first | (refine Or.inl ⟨by omega, ?_⟩; omega) | (refine Or.inr (Or.inl ⟨by omega, ?_⟩); omega) | (refine Or.inr (Or.inr ⟨by omega, ?_⟩); omega)) (by rw [c42, c38, c33]; first | exact Or.inl ⟨by omega, rfl⟩ | (obtain ⟨dv, gy⟩ := gx; exact Or.inr ⟨dv, by omega, gy⟩))
  · refine sf_aload rfl ?_
    refine sf_iload rfl ?_
    refine sf_call2 rfl rfl rfl ?_
    refine sf_rv hI0 rfl ?_
    refine sf_sp (L := [(0, .inl (.ref 0)), (1, .inl (.int a_l1))]) rfl rfl ?_
    refine sf_iload rfl ?_
    refine sf_aload rfl ?_
    refine sf_getr hI0 rfl rfl ?_
    refine sf_geti hI0 rfl rfl (fun v44 lv44 uv44 ev44 => ?_)
    refine sf_call2 rfl rfl rfl ?_
    refine sf_sp (L := [(0, .inl (.int a_l1)), (1, .inl (.int v44))]) rfl rfl ?_
    refine sf_iconst sf_c0 (fun z45 ez45 => ?_)
    refine sf_iload rfl ?_
    refine sf_f2_gt (fun h46 => ?_) (fun h46 => ?_)
    · refine sf_iconst sf_c0 (fun z47 ez47 => ?_)
      refine sf_zreturn (by omega) rfl rfl ?_
      refine sf_zreturn (by omega) rfl rfl ?_
      refine sf_f1_eq (fun h48 => ?_) (fun h48 => absurd h48 (by omega))
      refine sf_iconst sf_c0 (fun z49 ez49 => ?_)
      refine sf_call1 rfl rfl rfl ?_
      refine sf_sp (L := [(0, .inl (.int z49))]) rfl rfl ?_
      refine sf_iload rfl ?_
      refine sf_f1_eq (fun h50 => ?_) (fun h50 => absurd h50 (by omega))
      refine sf_throw rfl rfl ?_
      refine sf_xout rfl rfl ?_
      refine sf_xhh (L' := [(0, .inl (.ref 0)), (1, .inl (.int a_l1)), (2, .inl (.ref 130))]) rfl rfl ?_
      refine sf_iconst sf_c1 (fun z51 ez51 => ?_)
      refine sf_ireturn rfl rfl ?_
      exact hR _ _ hI0 hs0 (by omega) (by omega) (by first | (refine Or.inl ⟨by omega, ?_⟩; omega) | (refine Or.inr (Or.inl ⟨by omega, ?_⟩); omega) | (refine Or.inr (Or.inr ⟨by omega, ?_⟩); omega)) (by first | exact Or.inl ⟨by omega, rfl⟩ | (obtain ⟨dv, gy⟩ := gx; exact Or.inr ⟨dv, by omega, gy⟩))
    · refine sf_iload rfl ?_
      refine sf_iload rfl ?_
      refine sf_f2_ge (fun h52 => ?_) (fun h52 => ?_)
      · refine sf_iconst sf_c0 (fun z53 ez53 => ?_)
        refine sf_zreturn (by omega) rfl rfl ?_
        refine sf_zreturn (by omega) rfl rfl ?_
        refine sf_f1_eq (fun h54 => ?_) (fun h54 => absurd h54 (by omega))
        refine sf_iconst sf_c0 (fun z55 ez55 => ?_)
        refine sf_call1 rfl rfl rfl ?_
        refine sf_sp (L := [(0, .inl (.int z55))]) rfl rfl ?_
        refine sf_iload rfl ?_
        refine sf_f1_eq (fun h56 => ?_) (fun h56 => absurd h56 (by omega))
        refine sf_throw rfl rfl ?_
        refine sf_xout rfl rfl ?_
        refine sf_xhh (L' := [(0, .inl (.ref 0)), (1, .inl (.int a_l1)), (2, .inl (.ref 130))]) rfl rfl ?_
        refine sf_iconst sf_c1 (fun z57 ez57 => ?_)
        refine sf_ireturn rfl rfl ?_
        exact hR _ _ hI0 hs0 (by omega) (by omega) (by first | (refine Or.inl ⟨by omega, ?_⟩; omega) | (refine Or.inr (Or.inl ⟨by omega, ?_⟩); omega) | (refine Or.inr (Or.inr ⟨by omega, ?_⟩); omega)) (by first | exact Or.inl ⟨by omega, rfl⟩ | (obtain ⟨dv, gy⟩ := gx; exact Or.inr ⟨dv, by omega, gy⟩))
      · refine sf_iconst sf_c1 (fun z58 ez58 => ?_)
        refine sf_zreturn (by omega) rfl rfl ?_
        refine sf_zreturn (by omega) rfl rfl ?_
        refine sf_f1_eq (fun h59 => absurd h59 (by omega)) (fun h59 => ?_)
        refine sf_iconst sf_c1 (fun z60 ez60 => ?_)
        refine sf_call1 rfl rfl rfl ?_
        refine sf_sp (L := [(0, .inl (.int z60))]) rfl rfl ?_
        refine sf_iload rfl ?_
        refine sf_f1_eq (fun h61 => absurd h61 (by omega)) (fun h61 => ?_)
        refine sf_vreturn rfl rfl ?_
        refine sf_aload rfl ?_
        refine sf_getr hI0 rfl rfl ?_
        refine sf_geti hI0 rfl rfl (fun v62 lv62 uv62 ev62 => ?_)
        refine sf_iconst sf_c24 (fun z63 ez63 => ?_)
        refine sf_f2_ge (fun h64 => ?_) (fun h64 => ?_)
        · refine sf_iconst sf_c0 (fun z65 ez65 => ?_)
          refine sf_call1 rfl rfl rfl ?_
          refine sf_sp (L := [(0, .inl (.int z65))]) rfl rfl ?_
          refine sf_iload rfl ?_
          refine sf_f1_eq (fun h66 => ?_) (fun h66 => absurd h66 (by omega))
          refine sf_throw rfl rfl ?_
          refine sf_xout rfl rfl ?_
          refine sf_xhm rfl ?_
          refine sf_xhh (L' := [(0, .inl (.ref 0)), (1, .inl (.int a_l1)), (2, .inl (.ref 130))]) rfl rfl ?_
          refine sf_iconst sf_c2 (fun z67 ez67 => ?_)
          refine sf_ireturn rfl rfl ?_
          exact hR _ _ hI0 hs0 (by omega) (by omega) (by first | (refine Or.inl ⟨by omega, ?_⟩; omega) | (refine Or.inr (Or.inl ⟨by omega, ?_⟩); omega) | (refine Or.inr (Or.inr ⟨by omega, ?_⟩); omega)) (by first | exact Or.inl ⟨by omega, rfl⟩ | (obtain ⟨dv, gy⟩ := gx; exact Or.inr ⟨dv, by omega, gy⟩))
        · refine sf_iconst sf_c1 (fun z68 ez68 => ?_)
          refine sf_call1 rfl rfl rfl ?_
          refine sf_sp (L := [(0, .inl (.int z68))]) rfl rfl ?_
          refine sf_iload rfl ?_
          refine sf_f1_eq (fun h69 => absurd h69 (by omega)) (fun h69 => ?_)
          refine sf_vreturn rfl rfl ?_
          refine sf_aload rfl ?_
          refine sf_getr hI0 rfl rfl ?_
          refine sf_iload rfl ?_
          refine sf_call2 rfl rfl rfl ?_
          refine sf_rv hI0 rfl ?_
          refine sf_sp (L := [(0, .inl (.ref 1)), (1, .inl (.int a_l1))]) rfl rfl ?_
          refine sf_iload rfl ?_
          refine sf_iconst sf_cm1 (fun z70 ez70 => ?_)
          refine sf_f2_eq (fun h71 => absurd h71 (by omega)) (fun h71 => ?_)
          refine sf_aload rfl ?_
          refine sf_getr hI0 rfl rfl ?_
          refine sf_iload rfl ?_
          refine sf_iald hI0 rfl (by omega) (fun v72 lv72 uv72 ev72 => ?_)
          refine sf_iconst sf_c1 (fun z73 ez73 => ?_)
          refine sf_iadd (by omega) (fun v74 ev74 => ?_)
          refine sf_ireturn rfl rfl ?_
          refine sf_iconst sf_c5 (fun z75 ez75 => ?_)
          refine sf_f2_gt (fun h76 => ?_) (fun h76 => ?_)
          · refine sf_iconst sf_c0 (fun z77 ez77 => ?_)
            refine sf_call1 rfl rfl rfl ?_
            refine sf_sp (L := [(0, .inl (.int z77))]) rfl rfl ?_
            refine sf_iload rfl ?_
            refine sf_f1_eq (fun h78 => ?_) (fun h78 => absurd h78 (by omega))
            refine sf_throw rfl rfl ?_
            refine sf_xout rfl rfl ?_
            refine sf_xhm rfl ?_
            refine sf_xhh (L' := [(0, .inl (.ref 0)), (1, .inl (.int a_l1)), (2, .inl (.ref 130))]) rfl rfl ?_
            refine sf_iconst sf_c2 (fun z79 ez79 => ?_)
            refine sf_ireturn rfl rfl ?_
            exact hR _ _ hI0 hs0 (by omega) (by omega) (by first | (refine Or.inl ⟨by omega, ?_⟩; omega) | (refine Or.inr (Or.inl ⟨by omega, ?_⟩); omega) | (refine Or.inr (Or.inr ⟨by omega, ?_⟩); omega)) (by first | exact Or.inl ⟨by omega, rfl⟩ | (obtain ⟨dv, gy⟩ := gx; exact Or.inr ⟨dv, by omega, gy⟩))
          · refine sf_iconst sf_c1 (fun z80 ez80 => ?_)
            refine sf_call1 rfl rfl rfl ?_
            refine sf_sp (L := [(0, .inl (.int z80))]) rfl rfl ?_
            refine sf_iload rfl ?_
            refine sf_f1_eq (fun h81 => absurd h81 (by omega)) (fun h81 => ?_)
            refine sf_vreturn rfl rfl ?_
            refine sf_aload rfl ?_
            refine sf_getr hI0 rfl rfl ?_
            refine sf_iload rfl ?_
            refine sf_call2 rfl rfl rfl ?_
            refine sf_rv hI0 rfl ?_
            refine sf_sp (L := [(0, .inl (.ref 1)), (1, .inl (.int a_l1))]) rfl rfl ?_
            refine sf_aload rfl ?_
            refine sf_geti hI0 rfl rfl (fun v82 lv82 uv82 ev82 => ?_)
            refine sf_istore (L' := [(0, .inl (.ref 1)), (1, .inl (.int a_l1))]) rfl ?_
            refine sf_aload rfl ?_
            refine sf_getr hI0 rfl rfl ?_
            refine sf_iload rfl ?_
            refine sf_iload rfl ?_
            refine sf_iast hI0 hs0 rfl (by omega) (by omega) rfl rfl (fun w83 Iw83 sw83 kw83 uw83 => ?_)
            have c84 := sf_mf kw83 (p := 1) (j := 0) rfl
            have c85 := sf_ma kw83 (p := 3) rfl
            clear kw83 uw83
            refine sf_aload rfl ?_
            refine sf_getr Iw83 rfl rfl ?_
            refine sf_iload rfl ?_
            refine sf_aload rfl ?_
            refine sf_iload rfl ?_
            refine sf_call2 rfl rfl rfl ?_
            refine sf_rv Iw83 rfl ?_
            refine sf_sp (L := [(0, .inl (.ref 1)), (1, .inl (.int a_l1))]) rfl rfl ?_
            refine sf_iload rfl ?_
            refine sf_iconst sf_cm1 (fun z86 ez86 => ?_)
            refine sf_f2_eq (fun h87 => absurd h87 (by omega)) (fun h87 => ?_)
            refine sf_aload rfl ?_
            refine sf_getr Iw83 rfl rfl ?_
            refine sf_iload rfl ?_
            refine sf_iald Iw83 rfl (by omega) (fun v88 lv88 uv88 ev88 => ?_)
            rw [c85] at ev88
            refine sf_iconst sf_c1 (fun z89 ez89 => ?_)
            refine sf_iadd (by omega) (fun v90 ev90 => ?_)
            refine sf_ireturn rfl rfl ?_
            have g3 := c85
            refine sf_iast Iw83 sw83 rfl (by omega) (by omega) rfl rfl (fun w91 Iw91 sw91 kw91 uw91 => ?_)
            have c92 := sf_mf kw91 (p := 1) (j := 0) rfl
            clear kw91
            have gd := uw91
            have gi : v82.toInt = (sf_f w0 1 0).toInt := by omega
            rw [gi, g3] at gd
            have gx : ∃ dv : Int32, sf_a w91 3 = upd (sf_a w0 3) (sf_f w0 1 0).toInt.toNat dv ∧ (a_l1.toInt = -1 → dv.toInt = 0) ∧ (0 ≤ a_l1.toInt → dv.toInt = (sf_a w0 3 a_l1.toInt.toNat).toInt + 1) ∧ 0 ≤ dv.toInt ∧ dv.toInt ≤ 5 := ⟨v90, gd, by omega, by omega, by omega, by omega⟩
            refine sf_aload rfl ?_
            refine sf_getr Iw91 rfl rfl ?_
            refine sf_iload rfl ?_
            refine sf_iconst sf_cm1 (fun z93 ez93 => ?_)
            refine sf_iast Iw91 sw91 rfl (by omega) (sf_bd _) rfl rfl (fun w94 Iw94 sw94 kw94 uw94 => ?_)
            have c95 := sf_mf kw94 (p := 1) (j := 0) rfl
            have c96 := sf_ma kw94 (p := 3) rfl
            clear kw94 uw94
            refine sf_aload rfl ?_
            refine sf_dup rfl ?_
            refine sf_geti Iw94 rfl rfl (fun v97 lv97 uv97 ev97 => ?_)
            rw [c95, c92, c84] at ev97
            refine sf_iconst sf_c1 (fun z98 ez98 => ?_)
            refine sf_iadd (by omega) (fun v99 ev99 => ?_)
            refine sf_puti Iw94 sw94 rfl rfl (by omega) rfl rfl rfl (fun w100 Iw100 sw100 kw100 uw100 => ?_)
            have c101 := sf_ma kw100 (p := 3) rfl
            clear kw100
            refine sf_iload rfl ?_
            refine sf_ireturn rfl rfl ?_
            refine sf_ireturn rfl rfl ?_
            refine sf_i2l (fun v102 ev102 => ?_)
            refine sf_last Iw100 sw100 rfl (by omega) rfl rfl (fun w103 Iw103 sw103 kw103 uw103 => ?_)
            have c104 := sf_mf kw103 (p := 1) (j := 0) rfl
            have c105 := sf_ma kw103 (p := 3) rfl
            clear kw103
            have go : (sf_l w103 130 0).toInt = v102.toInt := by rw [uw103, show z1.toInt.toNat = 0 by omega]; unfold vp_updL; rw [if_pos rfl]
            refine sf_iconst sf_c0 (fun z106 ez106 => ?_)
            refine sf_ireturn rfl rfl ?_
            exact hR _ _ Iw103 sw103 (by omega) (by omega) (by rw [c104, uw100]; first | (refine Or.inl ⟨by omega, ?_⟩; omega) | (refine Or.inr (Or.inl ⟨by omega, ?_⟩); omega) | (refine Or.inr (Or.inr ⟨by omega, ?_⟩); omega)) (by rw [c105, c101, c96]; first | exact Or.inl ⟨by omega, rfl⟩ | (obtain ⟨dv, gy⟩ := gx; exact Or.inr ⟨dv, by omega, gy⟩))
def sm_W_note_0_130 : List Nat := [1, 6, 7, 8, 9, 130, 1105]
set_option maxRecDepth 100000 in
set_option maxHeartbeats 4000000 in
theorem sc_W_note_0_130 {w0 : wq_W} (hI0 : sf_I w0) {rt : Option wq_V → wq_W → Prop} {xt : Nat → wq_W → Prop} {a_l1 : Int32} {a_l2 : Int32} {a_l3 : Int32} {a_l4 : Int32}  (hR : ∀ (r : Int32) (w : wq_W), sf_I w → sf_m sm_W_note_0_130 w0 w → 0 ≤ r.toInt → r.toInt ≤ 2 → (((r.toInt = 0 ∧ (0 ≤ a_l1.toInt ∧ a_l1.toInt < (sf_f w0 1 0).toInt ∧ 0 ≤ a_l2.toInt ∧ a_l2.toInt ≤ 2 ∧ 0 ≤ a_l3.toInt ∧ a_l3.toInt ≤ 7 ∧ 1 ≤ a_l4.toInt ∧ a_l4.toInt ≤ 1000 ∧ (a_l2.toInt ≠ 2 ∨ a_l3.toInt < 4)) ∧ ((sf_f w0 1 5).toInt < 40) ∧ (sf_f w 1 5).toInt = (sf_f w0 1 5).toInt + 1 ∧ (sf_l w 130 0).toInt = (sf_f w0 1 5).toInt) ∨ (r.toInt = 1 ∧ ¬ (0 ≤ a_l1.toInt ∧ a_l1.toInt < (sf_f w0 1 0).toInt ∧ 0 ≤ a_l2.toInt ∧ a_l2.toInt ≤ 2 ∧ 0 ≤ a_l3.toInt ∧ a_l3.toInt ≤ 7 ∧ 1 ≤ a_l4.toInt ∧ a_l4.toInt ≤ 1000 ∧ (a_l2.toInt ≠ 2 ∨ a_l3.toInt < 4)) ∧ (sf_f w 1 5).toInt = (sf_f w0 1 5).toInt) ∨ (r.toInt = 2 ∧ (0 ≤ a_l1.toInt ∧ a_l1.toInt < (sf_f w0 1 0).toInt ∧ 0 ≤ a_l2.toInt ∧ a_l2.toInt ≤ 2 ∧ 0 ≤ a_l3.toInt ∧ a_l3.toInt ≤ 7 ∧ 1 ≤ a_l4.toInt ∧ a_l4.toInt ≤ 1000 ∧ (a_l2.toInt ≠ 2 ∨ a_l3.toInt < 4)) ∧ ¬ ((sf_f w0 1 5).toInt < 40) ∧ (sf_f w 1 5).toInt = (sf_f w0 1 5).toInt))) → rt (some (.inl (.int r))) w) : ks_W_note [.inl (.ref 0), .inl (.int a_l1), .inl (.int a_l2), .inl (.int a_l3), .inl (.int a_l4), .inl (.ref 130)] w0 rt xt := by
  have hs0 : sf_m sm_W_note_0_130 w0 w0 := sf_m0
  refine sf_sp (L := [(0, .inl (.ref 0)), (1, .inl (.int a_l1)), (2, .inl (.int a_l2)), (3, .inl (.int a_l3)), (4, .inl (.int a_l4)), (5, .inl (.ref 130))]) rfl rfl ?_
  refine sf_aload rfl ?_
  refine sf_iconst sf_c0 (fun z1 ez1 => ?_)
  refine sf_aload rfl ?_
  refine sf_iload rfl ?_
  refine sf_iload rfl ?_
  refine sf_iload rfl ?_
  refine sf_iload rfl ?_
  refine sf_call5 rfl rfl rfl ?_
  refine sf_rv hI0 rfl ?_
  refine sf_sp (L := [(0, .inl (.ref 0)), (1, .inl (.int a_l1)), (2, .inl (.int a_l2)), (3, .inl (.int a_l3)), (4, .inl (.int a_l4))]) rfl rfl ?_
  refine sf_aload rfl ?_
  refine sf_iload rfl ?_
  refine sf_call2 rfl rfl rfl ?_
  refine sf_rv hI0 rfl ?_
  refine sf_sp (L := [(0, .inl (.ref 0)), (1, .inl (.int a_l1))]) rfl rfl ?_
  refine sf_iload rfl ?_
  refine sf_aload rfl ?_
  refine sf_getr hI0 rfl rfl ?_
  refine sf_geti hI0 rfl rfl (fun v2 lv2 uv2 ev2 => ?_)
  refine sf_call2 rfl rfl rfl ?_
  refine sf_sp (L := [(0, .inl (.int a_l1)), (1, .inl (.int v2))]) rfl rfl ?_
  refine sf_iconst sf_c0 (fun z3 ez3 => ?_)
  refine sf_iload rfl ?_
  refine sf_f2_gt (fun h4 => ?_) (fun h4 => ?_)
  · refine sf_iconst sf_c0 (fun z5 ez5 => ?_)
    refine sf_zreturn (by omega) rfl rfl ?_
    refine sf_zreturn (by omega) rfl rfl ?_
    refine sf_f1_eq (fun h6 => ?_) (fun h6 => absurd h6 (by omega))
    refine sf_iconst sf_c0 (fun z7 ez7 => ?_)
    refine sf_call1 rfl rfl rfl ?_
    refine sf_sp (L := [(0, .inl (.int z7))]) rfl rfl ?_
    refine sf_iload rfl ?_
    refine sf_f1_eq (fun h8 => ?_) (fun h8 => absurd h8 (by omega))
    refine sf_throw rfl rfl ?_
    refine sf_xout rfl rfl ?_
    refine sf_xhh (L' := [(0, .inl (.ref 0)), (1, .inl (.int a_l1)), (2, .inl (.int a_l2)), (3, .inl (.int a_l3)), (4, .inl (.int a_l4)), (5, .inl (.ref 130))]) rfl rfl ?_
    refine sf_iconst sf_c1 (fun z9 ez9 => ?_)
    refine sf_ireturn rfl rfl ?_
    exact hR _ _ hI0 hs0 (by omega) (by omega) (by first | (refine Or.inl ⟨by omega, ?_⟩; omega) | (refine Or.inr (Or.inl ⟨by omega, ?_⟩); omega) | (refine Or.inr (Or.inr ⟨by omega, ?_⟩); omega))
  · refine sf_iload rfl ?_
    refine sf_iload rfl ?_
    refine sf_f2_ge (fun h10 => ?_) (fun h10 => ?_)
    · refine sf_iconst sf_c0 (fun z11 ez11 => ?_)
      refine sf_zreturn (by omega) rfl rfl ?_
      refine sf_zreturn (by omega) rfl rfl ?_
      refine sf_f1_eq (fun h12 => ?_) (fun h12 => absurd h12 (by omega))
      refine sf_iconst sf_c0 (fun z13 ez13 => ?_)
      refine sf_call1 rfl rfl rfl ?_
      refine sf_sp (L := [(0, .inl (.int z13))]) rfl rfl ?_
      refine sf_iload rfl ?_
      refine sf_f1_eq (fun h14 => ?_) (fun h14 => absurd h14 (by omega))
      refine sf_throw rfl rfl ?_
      refine sf_xout rfl rfl ?_
      refine sf_xhh (L' := [(0, .inl (.ref 0)), (1, .inl (.int a_l1)), (2, .inl (.int a_l2)), (3, .inl (.int a_l3)), (4, .inl (.int a_l4)), (5, .inl (.ref 130))]) rfl rfl ?_
      refine sf_iconst sf_c1 (fun z15 ez15 => ?_)
      refine sf_ireturn rfl rfl ?_
      exact hR _ _ hI0 hs0 (by omega) (by omega) (by first | (refine Or.inl ⟨by omega, ?_⟩; omega) | (refine Or.inr (Or.inl ⟨by omega, ?_⟩); omega) | (refine Or.inr (Or.inr ⟨by omega, ?_⟩); omega))
    · refine sf_iconst sf_c1 (fun z16 ez16 => ?_)
      refine sf_zreturn (by omega) rfl rfl ?_
      refine sf_zreturn (by omega) rfl rfl ?_
      refine sf_f1_eq (fun h17 => absurd h17 (by omega)) (fun h17 => ?_)
      refine sf_iload rfl ?_
      refine sf_call1 rfl rfl rfl ?_
      refine sf_sp (L := [(0, .inl (.int a_l3))]) rfl rfl ?_
      refine sf_iload rfl ?_
      refine sf_iconst sf_c8 (fun z18 ez18 => ?_)
      refine sf_call2 rfl rfl rfl ?_
      refine sf_sp (L := [(0, .inl (.int a_l3)), (1, .inl (.int z18))]) rfl rfl ?_
      refine sf_iconst sf_c0 (fun z19 ez19 => ?_)
      refine sf_iload rfl ?_
      refine sf_f2_gt (fun h20 => ?_) (fun h20 => ?_)
      · refine sf_iconst sf_c0 (fun z21 ez21 => ?_)
        refine sf_zreturn (by omega) rfl rfl ?_
        refine sf_zreturn (by omega) rfl rfl ?_
        refine sf_f1_eq (fun h22 => ?_) (fun h22 => absurd h22 (by omega))
        refine sf_iconst sf_c0 (fun z23 ez23 => ?_)
        refine sf_call1 rfl rfl rfl ?_
        refine sf_sp (L := [(0, .inl (.int z23))]) rfl rfl ?_
        refine sf_iload rfl ?_
        refine sf_f1_eq (fun h24 => ?_) (fun h24 => absurd h24 (by omega))
        refine sf_throw rfl rfl ?_
        refine sf_xout rfl rfl ?_
        refine sf_xhh (L' := [(0, .inl (.ref 0)), (1, .inl (.int a_l1)), (2, .inl (.int a_l2)), (3, .inl (.int a_l3)), (4, .inl (.int a_l4)), (5, .inl (.ref 130))]) rfl rfl ?_
        refine sf_iconst sf_c1 (fun z25 ez25 => ?_)
        refine sf_ireturn rfl rfl ?_
        exact hR _ _ hI0 hs0 (by omega) (by omega) (by first | (refine Or.inl ⟨by omega, ?_⟩; omega) | (refine Or.inr (Or.inl ⟨by omega, ?_⟩); omega) | (refine Or.inr (Or.inr ⟨by omega, ?_⟩); omega))
      · refine sf_iload rfl ?_
        refine sf_iload rfl ?_
        refine sf_f2_ge (fun h26 => ?_) (fun h26 => ?_)
        · refine sf_iconst sf_c0 (fun z27 ez27 => ?_)
          refine sf_zreturn (by omega) rfl rfl ?_
          refine sf_zreturn (by omega) rfl rfl ?_
          refine sf_f1_eq (fun h28 => ?_) (fun h28 => absurd h28 (by omega))
          refine sf_iconst sf_c0 (fun z29 ez29 => ?_)
          refine sf_call1 rfl rfl rfl ?_
          refine sf_sp (L := [(0, .inl (.int z29))]) rfl rfl ?_
          refine sf_iload rfl ?_
          refine sf_f1_eq (fun h30 => ?_) (fun h30 => absurd h30 (by omega))
          refine sf_throw rfl rfl ?_
          refine sf_xout rfl rfl ?_
          refine sf_xhh (L' := [(0, .inl (.ref 0)), (1, .inl (.int a_l1)), (2, .inl (.int a_l2)), (3, .inl (.int a_l3)), (4, .inl (.int a_l4)), (5, .inl (.ref 130))]) rfl rfl ?_
          refine sf_iconst sf_c1 (fun z31 ez31 => ?_)
          refine sf_ireturn rfl rfl ?_
          exact hR _ _ hI0 hs0 (by omega) (by omega) (by first | (refine Or.inl ⟨by omega, ?_⟩; omega) | (refine Or.inr (Or.inl ⟨by omega, ?_⟩); omega) | (refine Or.inr (Or.inr ⟨by omega, ?_⟩); omega))
        · refine sf_iconst sf_c1 (fun z32 ez32 => ?_)
          refine sf_zreturn (by omega) rfl rfl ?_
          refine sf_zreturn (by omega) rfl rfl ?_
          refine sf_f1_eq (fun h33 => absurd h33 (by omega)) (fun h33 => ?_)
          refine sf_iconst sf_c1 (fun z34 ez34 => ?_)
          refine sf_call1 rfl rfl rfl ?_
          refine sf_sp (L := [(0, .inl (.int z34))]) rfl rfl ?_
          refine sf_iload rfl ?_
          refine sf_f1_eq (fun h35 => absurd h35 (by omega)) (fun h35 => ?_)
          refine sf_vreturn rfl rfl ?_
          refine sf_iload rfl ?_
          refine sf_iconst sf_c0 (fun z36 ez36 => ?_)
          refine sf_iconst sf_c2 (fun z37 ez37 => ?_)
          refine sf_call3 rfl rfl rfl ?_
          refine sf_sp (L := [(0, .inl (.int a_l2)), (1, .inl (.int z36)), (2, .inl (.int z37))]) rfl rfl ?_
          refine sf_iload rfl ?_
          refine sf_iload rfl ?_
          refine sf_f2_gt (fun h38 => ?_) (fun h38 => ?_)
          · refine sf_iconst sf_c0 (fun z39 ez39 => ?_)
            refine sf_zreturn (by omega) rfl rfl ?_
            refine sf_call1 rfl rfl rfl ?_
            refine sf_sp (L := [(0, .inl (.int z39))]) rfl rfl ?_
            refine sf_iload rfl ?_
            refine sf_f1_eq (fun h40 => ?_) (fun h40 => absurd h40 (by omega))
            refine sf_throw rfl rfl ?_
            refine sf_xout rfl rfl ?_
            refine sf_xhh (L' := [(0, .inl (.ref 0)), (1, .inl (.int a_l1)), (2, .inl (.int a_l2)), (3, .inl (.int a_l3)), (4, .inl (.int a_l4)), (5, .inl (.ref 130))]) rfl rfl ?_
            refine sf_iconst sf_c1 (fun z41 ez41 => ?_)
            refine sf_ireturn rfl rfl ?_
            exact hR _ _ hI0 hs0 (by omega) (by omega) (by first | (refine Or.inl ⟨by omega, ?_⟩; omega) | (refine Or.inr (Or.inl ⟨by omega, ?_⟩); omega) | (refine Or.inr (Or.inr ⟨by omega, ?_⟩); omega))
          · refine sf_iload rfl ?_
            refine sf_iload rfl ?_
            refine sf_f2_gt (fun h42 => ?_) (fun h42 => ?_)
            · refine sf_iconst sf_c0 (fun z43 ez43 => ?_)
              refine sf_zreturn (by omega) rfl rfl ?_
              refine sf_call1 rfl rfl rfl ?_
              refine sf_sp (L := [(0, .inl (.int z43))]) rfl rfl ?_
              refine sf_iload rfl ?_
              refine sf_f1_eq (fun h44 => ?_) (fun h44 => absurd h44 (by omega))
              refine sf_throw rfl rfl ?_
              refine sf_xout rfl rfl ?_
              refine sf_xhh (L' := [(0, .inl (.ref 0)), (1, .inl (.int a_l1)), (2, .inl (.int a_l2)), (3, .inl (.int a_l3)), (4, .inl (.int a_l4)), (5, .inl (.ref 130))]) rfl rfl ?_
              refine sf_iconst sf_c1 (fun z45 ez45 => ?_)
              refine sf_ireturn rfl rfl ?_
              exact hR _ _ hI0 hs0 (by omega) (by omega) (by first | (refine Or.inl ⟨by omega, ?_⟩; omega) | (refine Or.inr (Or.inl ⟨by omega, ?_⟩); omega) | (refine Or.inr (Or.inr ⟨by omega, ?_⟩); omega))
            · refine sf_iconst sf_c1 (fun z46 ez46 => ?_)
              refine sf_zreturn (by omega) rfl rfl ?_
              refine sf_call1 rfl rfl rfl ?_
              refine sf_sp (L := [(0, .inl (.int z46))]) rfl rfl ?_
              refine sf_iload rfl ?_
              refine sf_f1_eq (fun h47 => absurd h47 (by omega)) (fun h47 => ?_)
              refine sf_vreturn rfl rfl ?_
              refine sf_iload rfl ?_
              refine sf_iconst sf_c1 (fun z48 ez48 => ?_)
              refine sf_iconst sf_c1000 (fun z49 ez49 => ?_)
              refine sf_call3 rfl rfl rfl ?_
              refine sf_sp (L := [(0, .inl (.int a_l4)), (1, .inl (.int z48)), (2, .inl (.int z49))]) rfl rfl ?_
              refine sf_iload rfl ?_
              refine sf_iload rfl ?_
              refine sf_f2_gt (fun h50 => ?_) (fun h50 => ?_)
              · refine sf_iconst sf_c0 (fun z51 ez51 => ?_)
                refine sf_zreturn (by omega) rfl rfl ?_
                refine sf_call1 rfl rfl rfl ?_
                refine sf_sp (L := [(0, .inl (.int z51))]) rfl rfl ?_
                refine sf_iload rfl ?_
                refine sf_f1_eq (fun h52 => ?_) (fun h52 => absurd h52 (by omega))
                refine sf_throw rfl rfl ?_
                refine sf_xout rfl rfl ?_
                refine sf_xhh (L' := [(0, .inl (.ref 0)), (1, .inl (.int a_l1)), (2, .inl (.int a_l2)), (3, .inl (.int a_l3)), (4, .inl (.int a_l4)), (5, .inl (.ref 130))]) rfl rfl ?_
                refine sf_iconst sf_c1 (fun z53 ez53 => ?_)
                refine sf_ireturn rfl rfl ?_
                exact hR _ _ hI0 hs0 (by omega) (by omega) (by first | (refine Or.inl ⟨by omega, ?_⟩; omega) | (refine Or.inr (Or.inl ⟨by omega, ?_⟩); omega) | (refine Or.inr (Or.inr ⟨by omega, ?_⟩); omega))
              · refine sf_iload rfl ?_
                refine sf_iload rfl ?_
                refine sf_f2_gt (fun h54 => ?_) (fun h54 => ?_)
                · refine sf_iconst sf_c0 (fun z55 ez55 => ?_)
                  refine sf_zreturn (by omega) rfl rfl ?_
                  refine sf_call1 rfl rfl rfl ?_
                  refine sf_sp (L := [(0, .inl (.int z55))]) rfl rfl ?_
                  refine sf_iload rfl ?_
                  refine sf_f1_eq (fun h56 => ?_) (fun h56 => absurd h56 (by omega))
                  refine sf_throw rfl rfl ?_
                  refine sf_xout rfl rfl ?_
                  refine sf_xhh (L' := [(0, .inl (.ref 0)), (1, .inl (.int a_l1)), (2, .inl (.int a_l2)), (3, .inl (.int a_l3)), (4, .inl (.int a_l4)), (5, .inl (.ref 130))]) rfl rfl ?_
                  refine sf_iconst sf_c1 (fun z57 ez57 => ?_)
                  refine sf_ireturn rfl rfl ?_
                  exact hR _ _ hI0 hs0 (by omega) (by omega) (by first | (refine Or.inl ⟨by omega, ?_⟩; omega) | (refine Or.inr (Or.inl ⟨by omega, ?_⟩); omega) | (refine Or.inr (Or.inr ⟨by omega, ?_⟩); omega))
                · refine sf_iconst sf_c1 (fun z58 ez58 => ?_)
                  refine sf_zreturn (by omega) rfl rfl ?_
                  refine sf_call1 rfl rfl rfl ?_
                  refine sf_sp (L := [(0, .inl (.int z58))]) rfl rfl ?_
                  refine sf_iload rfl ?_
                  refine sf_f1_eq (fun h59 => absurd h59 (by omega)) (fun h59 => ?_)
                  refine sf_vreturn rfl rfl ?_
                  refine sf_iload rfl ?_
                  refine sf_iconst sf_c2 (fun z60 ez60 => ?_)
                  refine sf_f2_eq (fun h61 => ?_) (fun h61 => ?_)
                  · refine sf_iload rfl ?_
                    refine sf_iconst sf_c4 (fun z62 ez62 => ?_)
                    refine sf_f2_ge (fun h63 => ?_) (fun h63 => ?_)
                    · refine sf_iconst sf_c0 (fun z64 ez64 => ?_)
                      refine sf_call1 rfl rfl rfl ?_
                      refine sf_sp (L := [(0, .inl (.int z64))]) rfl rfl ?_
                      refine sf_iload rfl ?_
                      refine sf_f1_eq (fun h65 => ?_) (fun h65 => absurd h65 (by omega))
                      refine sf_throw rfl rfl ?_
                      refine sf_xout rfl rfl ?_
                      refine sf_xhh (L' := [(0, .inl (.ref 0)), (1, .inl (.int a_l1)), (2, .inl (.int a_l2)), (3, .inl (.int a_l3)), (4, .inl (.int a_l4)), (5, .inl (.ref 130))]) rfl rfl ?_
                      refine sf_iconst sf_c1 (fun z66 ez66 => ?_)
                      refine sf_ireturn rfl rfl ?_
                      exact hR _ _ hI0 hs0 (by omega) (by omega) (by first | (refine Or.inl ⟨by omega, ?_⟩; omega) | (refine Or.inr (Or.inl ⟨by omega, ?_⟩); omega) | (refine Or.inr (Or.inr ⟨by omega, ?_⟩); omega))
                    · refine sf_iconst sf_c1 (fun z67 ez67 => ?_)
                      refine sf_call1 rfl rfl rfl ?_
                      refine sf_sp (L := [(0, .inl (.int z67))]) rfl rfl ?_
                      refine sf_iload rfl ?_
                      refine sf_f1_eq (fun h68 => absurd h68 (by omega)) (fun h68 => ?_)
                      refine sf_vreturn rfl rfl ?_
                      refine sf_aload rfl ?_
                      refine sf_getr hI0 rfl rfl ?_
                      refine sf_geti hI0 rfl rfl (fun v69 lv69 uv69 ev69 => ?_)
                      refine sf_iconst sf_c40 (fun z70 ez70 => ?_)
                      refine sf_f2_ge (fun h71 => ?_) (fun h71 => ?_)
                      · refine sf_iconst sf_c0 (fun z72 ez72 => ?_)
                        refine sf_call1 rfl rfl rfl ?_
                        refine sf_sp (L := [(0, .inl (.int z72))]) rfl rfl ?_
                        refine sf_iload rfl ?_
                        refine sf_f1_eq (fun h73 => ?_) (fun h73 => absurd h73 (by omega))
                        refine sf_throw rfl rfl ?_
                        refine sf_xout rfl rfl ?_
                        refine sf_xhm rfl ?_
                        refine sf_xhh (L' := [(0, .inl (.ref 0)), (1, .inl (.int a_l1)), (2, .inl (.int a_l2)), (3, .inl (.int a_l3)), (4, .inl (.int a_l4)), (5, .inl (.ref 130))]) rfl rfl ?_
                        refine sf_iconst sf_c2 (fun z74 ez74 => ?_)
                        refine sf_ireturn rfl rfl ?_
                        exact hR _ _ hI0 hs0 (by omega) (by omega) (by first | (refine Or.inl ⟨by omega, ?_⟩; omega) | (refine Or.inr (Or.inl ⟨by omega, ?_⟩); omega) | (refine Or.inr (Or.inr ⟨by omega, ?_⟩); omega))
                      · refine sf_iconst sf_c1 (fun z75 ez75 => ?_)
                        refine sf_call1 rfl rfl rfl ?_
                        refine sf_sp (L := [(0, .inl (.int z75))]) rfl rfl ?_
                        refine sf_iload rfl ?_
                        refine sf_f1_eq (fun h76 => absurd h76 (by omega)) (fun h76 => ?_)
                        refine sf_vreturn rfl rfl ?_
                        refine sf_aload rfl ?_
                        refine sf_getr hI0 rfl rfl ?_
                        refine sf_iload rfl ?_
                        refine sf_iload rfl ?_
                        refine sf_iload rfl ?_
                        refine sf_iload rfl ?_
                        refine sf_call5 rfl rfl rfl ?_
                        refine sf_rv hI0 rfl ?_
                        refine sf_sp (L := [(0, .inl (.ref 1)), (1, .inl (.int a_l1)), (2, .inl (.int a_l2)), (3, .inl (.int a_l3)), (4, .inl (.int a_l4))]) rfl rfl ?_
                        refine sf_aload rfl ?_
                        refine sf_geti hI0 rfl rfl (fun v77 lv77 uv77 ev77 => ?_)
                        refine sf_istore (L' := [(0, .inl (.ref 1)), (1, .inl (.int a_l1)), (2, .inl (.int a_l2)), (3, .inl (.int a_l3)), (4, .inl (.int a_l4))]) rfl ?_
                        refine sf_aload rfl ?_
                        refine sf_getr hI0 rfl rfl ?_
                        refine sf_iload rfl ?_
                        refine sf_iload rfl ?_
                        refine sf_iast hI0 hs0 rfl (by omega) (by omega) rfl rfl (fun w78 Iw78 sw78 kw78 uw78 => ?_)
                        have c79 := sf_mf kw78 (p := 1) (j := 5) rfl
                        clear kw78 uw78
                        refine sf_aload rfl ?_
                        refine sf_getr Iw78 rfl rfl ?_
                        refine sf_iload rfl ?_
                        refine sf_iload rfl ?_
                        refine sf_iast Iw78 sw78 rfl (by omega) (sf_bd _) rfl rfl (fun w80 Iw80 sw80 kw80 uw80 => ?_)
                        have c81 := sf_mf kw80 (p := 1) (j := 5) rfl
                        clear kw80 uw80
                        refine sf_aload rfl ?_
                        refine sf_getr Iw80 rfl rfl ?_
                        refine sf_iload rfl ?_
                        refine sf_iload rfl ?_
                        refine sf_iast Iw80 sw80 rfl (by omega) (by omega) rfl rfl (fun w82 Iw82 sw82 kw82 uw82 => ?_)
                        have c83 := sf_mf kw82 (p := 1) (j := 5) rfl
                        clear kw82 uw82
                        refine sf_aload rfl ?_
                        refine sf_getr Iw82 rfl rfl ?_
                        refine sf_iload rfl ?_
                        refine sf_iload rfl ?_
                        refine sf_iast Iw82 sw82 rfl (by omega) (sf_bd _) rfl rfl (fun w84 Iw84 sw84 kw84 uw84 => ?_)
                        have c85 := sf_mf kw84 (p := 1) (j := 5) rfl
                        clear kw84 uw84
                        refine sf_aload rfl ?_
                        refine sf_dup rfl ?_
                        refine sf_geti Iw84 rfl rfl (fun v86 lv86 uv86 ev86 => ?_)
                        rw [c85, c83, c81, c79] at ev86
                        refine sf_iconst sf_c1 (fun z87 ez87 => ?_)
                        refine sf_iadd (by omega) (fun v88 ev88 => ?_)
                        refine sf_puti Iw84 sw84 rfl rfl (by omega) rfl rfl rfl (fun w89 Iw89 sw89 kw89 uw89 => ?_)
                        clear kw89
                        refine sf_iload rfl ?_
                        refine sf_ireturn rfl rfl ?_
                        refine sf_ireturn rfl rfl ?_
                        refine sf_i2l (fun v90 ev90 => ?_)
                        refine sf_last Iw89 sw89 rfl (by omega) rfl rfl (fun w91 Iw91 sw91 kw91 uw91 => ?_)
                        have c92 := sf_mf kw91 (p := 1) (j := 5) rfl
                        clear kw91
                        have go : (sf_l w91 130 0).toInt = v90.toInt := by rw [uw91, show z1.toInt.toNat = 0 by omega]; unfold vp_updL; rw [if_pos rfl]
                        refine sf_iconst sf_c0 (fun z93 ez93 => ?_)
                        refine sf_ireturn rfl rfl ?_
                        exact hR _ _ Iw91 sw91 (by omega) (by omega) (by rw [c92, uw89]; first | (refine Or.inl ⟨by omega, ?_⟩; omega) | (refine Or.inr (Or.inl ⟨by omega, ?_⟩); omega) | (refine Or.inr (Or.inr ⟨by omega, ?_⟩); omega))
                  · refine sf_iconst sf_c1 (fun z94 ez94 => ?_)
                    refine sf_call1 rfl rfl rfl ?_
                    refine sf_sp (L := [(0, .inl (.int z94))]) rfl rfl ?_
                    refine sf_iload rfl ?_
                    refine sf_f1_eq (fun h95 => absurd h95 (by omega)) (fun h95 => ?_)
                    refine sf_vreturn rfl rfl ?_
                    refine sf_aload rfl ?_
                    refine sf_getr hI0 rfl rfl ?_
                    refine sf_geti hI0 rfl rfl (fun v96 lv96 uv96 ev96 => ?_)
                    refine sf_iconst sf_c40 (fun z97 ez97 => ?_)
                    refine sf_f2_ge (fun h98 => ?_) (fun h98 => ?_)
                    · refine sf_iconst sf_c0 (fun z99 ez99 => ?_)
                      refine sf_call1 rfl rfl rfl ?_
                      refine sf_sp (L := [(0, .inl (.int z99))]) rfl rfl ?_
                      refine sf_iload rfl ?_
                      refine sf_f1_eq (fun h100 => ?_) (fun h100 => absurd h100 (by omega))
                      refine sf_throw rfl rfl ?_
                      refine sf_xout rfl rfl ?_
                      refine sf_xhm rfl ?_
                      refine sf_xhh (L' := [(0, .inl (.ref 0)), (1, .inl (.int a_l1)), (2, .inl (.int a_l2)), (3, .inl (.int a_l3)), (4, .inl (.int a_l4)), (5, .inl (.ref 130))]) rfl rfl ?_
                      refine sf_iconst sf_c2 (fun z101 ez101 => ?_)
                      refine sf_ireturn rfl rfl ?_
                      exact hR _ _ hI0 hs0 (by omega) (by omega) (by first | (refine Or.inl ⟨by omega, ?_⟩; omega) | (refine Or.inr (Or.inl ⟨by omega, ?_⟩); omega) | (refine Or.inr (Or.inr ⟨by omega, ?_⟩); omega))
                    · refine sf_iconst sf_c1 (fun z102 ez102 => ?_)
                      refine sf_call1 rfl rfl rfl ?_
                      refine sf_sp (L := [(0, .inl (.int z102))]) rfl rfl ?_
                      refine sf_iload rfl ?_
                      refine sf_f1_eq (fun h103 => absurd h103 (by omega)) (fun h103 => ?_)
                      refine sf_vreturn rfl rfl ?_
                      refine sf_aload rfl ?_
                      refine sf_getr hI0 rfl rfl ?_
                      refine sf_iload rfl ?_
                      refine sf_iload rfl ?_
                      refine sf_iload rfl ?_
                      refine sf_iload rfl ?_
                      refine sf_call5 rfl rfl rfl ?_
                      refine sf_rv hI0 rfl ?_
                      refine sf_sp (L := [(0, .inl (.ref 1)), (1, .inl (.int a_l1)), (2, .inl (.int a_l2)), (3, .inl (.int a_l3)), (4, .inl (.int a_l4))]) rfl rfl ?_
                      refine sf_aload rfl ?_
                      refine sf_geti hI0 rfl rfl (fun v104 lv104 uv104 ev104 => ?_)
                      refine sf_istore (L' := [(0, .inl (.ref 1)), (1, .inl (.int a_l1)), (2, .inl (.int a_l2)), (3, .inl (.int a_l3)), (4, .inl (.int a_l4))]) rfl ?_
                      refine sf_aload rfl ?_
                      refine sf_getr hI0 rfl rfl ?_
                      refine sf_iload rfl ?_
                      refine sf_iload rfl ?_
                      refine sf_iast hI0 hs0 rfl (by omega) (by omega) rfl rfl (fun w105 Iw105 sw105 kw105 uw105 => ?_)
                      have c106 := sf_mf kw105 (p := 1) (j := 5) rfl
                      clear kw105 uw105
                      refine sf_aload rfl ?_
                      refine sf_getr Iw105 rfl rfl ?_
                      refine sf_iload rfl ?_
                      refine sf_iload rfl ?_
                      refine sf_iast Iw105 sw105 rfl (by omega) (sf_bd _) rfl rfl (fun w107 Iw107 sw107 kw107 uw107 => ?_)
                      have c108 := sf_mf kw107 (p := 1) (j := 5) rfl
                      clear kw107 uw107
                      refine sf_aload rfl ?_
                      refine sf_getr Iw107 rfl rfl ?_
                      refine sf_iload rfl ?_
                      refine sf_iload rfl ?_
                      refine sf_iast Iw107 sw107 rfl (by omega) (by omega) rfl rfl (fun w109 Iw109 sw109 kw109 uw109 => ?_)
                      have c110 := sf_mf kw109 (p := 1) (j := 5) rfl
                      clear kw109 uw109
                      refine sf_aload rfl ?_
                      refine sf_getr Iw109 rfl rfl ?_
                      refine sf_iload rfl ?_
                      refine sf_iload rfl ?_
                      refine sf_iast Iw109 sw109 rfl (by omega) (sf_bd _) rfl rfl (fun w111 Iw111 sw111 kw111 uw111 => ?_)
                      have c112 := sf_mf kw111 (p := 1) (j := 5) rfl
                      clear kw111 uw111
                      refine sf_aload rfl ?_
                      refine sf_dup rfl ?_
                      refine sf_geti Iw111 rfl rfl (fun v113 lv113 uv113 ev113 => ?_)
                      rw [c112, c110, c108, c106] at ev113
                      refine sf_iconst sf_c1 (fun z114 ez114 => ?_)
                      refine sf_iadd (by omega) (fun v115 ev115 => ?_)
                      refine sf_puti Iw111 sw111 rfl rfl (by omega) rfl rfl rfl (fun w116 Iw116 sw116 kw116 uw116 => ?_)
                      clear kw116
                      refine sf_iload rfl ?_
                      refine sf_ireturn rfl rfl ?_
                      refine sf_ireturn rfl rfl ?_
                      refine sf_i2l (fun v117 ev117 => ?_)
                      refine sf_last Iw116 sw116 rfl (by omega) rfl rfl (fun w118 Iw118 sw118 kw118 uw118 => ?_)
                      have c119 := sf_mf kw118 (p := 1) (j := 5) rfl
                      clear kw118
                      have go : (sf_l w118 130 0).toInt = v117.toInt := by rw [uw118, show z1.toInt.toNat = 0 by omega]; unfold vp_updL; rw [if_pos rfl]
                      refine sf_iconst sf_c0 (fun z120 ez120 => ?_)
                      refine sf_ireturn rfl rfl ?_
                      exact hR _ _ Iw118 sw118 (by omega) (by omega) (by rw [c119, uw116]; first | (refine Or.inl ⟨by omega, ?_⟩; omega) | (refine Or.inr (Or.inl ⟨by omega, ?_⟩); omega) | (refine Or.inr (Or.inr ⟨by omega, ?_⟩); omega))
def sm_W_fact_0_130 : List Nat := [10, 130]
set_option maxRecDepth 100000 in
set_option maxHeartbeats 4000000 in
theorem sc_W_fact_0_130 {w0 : wq_W} (hI0 : sf_I w0) {rt : Option wq_V → wq_W → Prop} {xt : Nat → wq_W → Prop} {a_l1 : Int32} {a_l2 : Int32} {a_l3 : Int32}  (hR : ∀ (r : Int32) (w : wq_W), sf_I w → sf_m sm_W_fact_0_130 w0 w → 0 ≤ r.toInt → r.toInt ≤ 1 → (((r.toInt = 0 ∧ (0 ≤ a_l1.toInt ∧ a_l1.toInt ≤ 15 ∧ 0 ≤ a_l2.toInt ∧ a_l2.toInt ≤ 7 ∧ 0 ≤ a_l3.toInt ∧ a_l3.toInt ≤ 1000) ∧ (sf_l w 130 0).toInt = (sf_g w0 10 a_l1.toInt.toNat a_l2.toInt.toNat).toInt) ∨ (r.toInt = 1 ∧ ¬ (0 ≤ a_l1.toInt ∧ a_l1.toInt ≤ 15 ∧ 0 ≤ a_l2.toInt ∧ a_l2.toInt ≤ 7 ∧ 0 ≤ a_l3.toInt ∧ a_l3.toInt ≤ 1000)))) → (((r.toInt ≠ 0 ∧ sf_g w 10 = sf_g w0 10) ∨ (r.toInt = 0 ∧ sf_g w 10 = wq_up2 (sf_g w0 10) a_l1.toInt.toNat a_l2.toInt.toNat a_l3 ∧ 0 ≤ a_l1.toInt ∧ a_l1.toInt ≤ 15 ∧ 0 ≤ a_l2.toInt ∧ a_l2.toInt ≤ 7 ∧ 0 ≤ a_l3.toInt ∧ a_l3.toInt ≤ 1000))) → rt (some (.inl (.int r))) w) : ks_W_fact [.inl (.ref 0), .inl (.int a_l1), .inl (.int a_l2), .inl (.int a_l3), .inl (.ref 130)] w0 rt xt := by
  have hs0 : sf_m sm_W_fact_0_130 w0 w0 := sf_m0
  refine sf_sp (L := [(0, .inl (.ref 0)), (1, .inl (.int a_l1)), (2, .inl (.int a_l2)), (3, .inl (.int a_l3)), (4, .inl (.ref 130))]) rfl rfl ?_
  refine sf_aload rfl ?_
  refine sf_iconst sf_c0 (fun z1 ez1 => ?_)
  refine sf_aload rfl ?_
  refine sf_iload rfl ?_
  refine sf_iload rfl ?_
  refine sf_iload rfl ?_
  refine sf_call4 rfl rfl rfl ?_
  refine sf_rv hI0 rfl ?_
  refine sf_sp (L := [(0, .inl (.ref 0)), (1, .inl (.int a_l1)), (2, .inl (.int a_l2)), (3, .inl (.int a_l3))]) rfl rfl ?_
  refine sf_iload rfl ?_
  refine sf_call1 rfl rfl rfl ?_
  refine sf_sp (L := [(0, .inl (.int a_l1))]) rfl rfl ?_
  refine sf_iload rfl ?_
  refine sf_iconst sf_c16 (fun z2 ez2 => ?_)
  refine sf_call2 rfl rfl rfl ?_
  refine sf_sp (L := [(0, .inl (.int a_l1)), (1, .inl (.int z2))]) rfl rfl ?_
  refine sf_iconst sf_c0 (fun z3 ez3 => ?_)
  refine sf_iload rfl ?_
  refine sf_f2_gt (fun h4 => ?_) (fun h4 => ?_)
  · refine sf_iconst sf_c0 (fun z5 ez5 => ?_)
    refine sf_zreturn (by omega) rfl rfl ?_
    refine sf_zreturn (by omega) rfl rfl ?_
    refine sf_f1_eq (fun h6 => ?_) (fun h6 => absurd h6 (by omega))
    refine sf_iconst sf_c0 (fun z7 ez7 => ?_)
    refine sf_call1 rfl rfl rfl ?_
    refine sf_sp (L := [(0, .inl (.int z7))]) rfl rfl ?_
    refine sf_iload rfl ?_
    refine sf_f1_eq (fun h8 => ?_) (fun h8 => absurd h8 (by omega))
    refine sf_throw rfl rfl ?_
    refine sf_xout rfl rfl ?_
    refine sf_xhh (L' := [(0, .inl (.ref 0)), (1, .inl (.int a_l1)), (2, .inl (.int a_l2)), (3, .inl (.int a_l3)), (4, .inl (.ref 130))]) rfl rfl ?_
    refine sf_iconst sf_c1 (fun z9 ez9 => ?_)
    refine sf_ireturn rfl rfl ?_
    exact hR _ _ hI0 hs0 (by omega) (by omega) (by first | (refine Or.inl ⟨by omega, ?_⟩; omega) | (refine Or.inr ⟨by omega, ?_⟩; omega)) (by first | exact Or.inl ⟨by omega, rfl⟩ | exact Or.inr ⟨by omega, gg, by omega⟩)
  · refine sf_iload rfl ?_
    refine sf_iload rfl ?_
    refine sf_f2_ge (fun h10 => ?_) (fun h10 => ?_)
    · refine sf_iconst sf_c0 (fun z11 ez11 => ?_)
      refine sf_zreturn (by omega) rfl rfl ?_
      refine sf_zreturn (by omega) rfl rfl ?_
      refine sf_f1_eq (fun h12 => ?_) (fun h12 => absurd h12 (by omega))
      refine sf_iconst sf_c0 (fun z13 ez13 => ?_)
      refine sf_call1 rfl rfl rfl ?_
      refine sf_sp (L := [(0, .inl (.int z13))]) rfl rfl ?_
      refine sf_iload rfl ?_
      refine sf_f1_eq (fun h14 => ?_) (fun h14 => absurd h14 (by omega))
      refine sf_throw rfl rfl ?_
      refine sf_xout rfl rfl ?_
      refine sf_xhh (L' := [(0, .inl (.ref 0)), (1, .inl (.int a_l1)), (2, .inl (.int a_l2)), (3, .inl (.int a_l3)), (4, .inl (.ref 130))]) rfl rfl ?_
      refine sf_iconst sf_c1 (fun z15 ez15 => ?_)
      refine sf_ireturn rfl rfl ?_
      exact hR _ _ hI0 hs0 (by omega) (by omega) (by first | (refine Or.inl ⟨by omega, ?_⟩; omega) | (refine Or.inr ⟨by omega, ?_⟩; omega)) (by first | exact Or.inl ⟨by omega, rfl⟩ | exact Or.inr ⟨by omega, gg, by omega⟩)
    · refine sf_iconst sf_c1 (fun z16 ez16 => ?_)
      refine sf_zreturn (by omega) rfl rfl ?_
      refine sf_zreturn (by omega) rfl rfl ?_
      refine sf_f1_eq (fun h17 => absurd h17 (by omega)) (fun h17 => ?_)
      refine sf_iload rfl ?_
      refine sf_call1 rfl rfl rfl ?_
      refine sf_sp (L := [(0, .inl (.int a_l2))]) rfl rfl ?_
      refine sf_iload rfl ?_
      refine sf_iconst sf_c8 (fun z18 ez18 => ?_)
      refine sf_call2 rfl rfl rfl ?_
      refine sf_sp (L := [(0, .inl (.int a_l2)), (1, .inl (.int z18))]) rfl rfl ?_
      refine sf_iconst sf_c0 (fun z19 ez19 => ?_)
      refine sf_iload rfl ?_
      refine sf_f2_gt (fun h20 => ?_) (fun h20 => ?_)
      · refine sf_iconst sf_c0 (fun z21 ez21 => ?_)
        refine sf_zreturn (by omega) rfl rfl ?_
        refine sf_zreturn (by omega) rfl rfl ?_
        refine sf_f1_eq (fun h22 => ?_) (fun h22 => absurd h22 (by omega))
        refine sf_iconst sf_c0 (fun z23 ez23 => ?_)
        refine sf_call1 rfl rfl rfl ?_
        refine sf_sp (L := [(0, .inl (.int z23))]) rfl rfl ?_
        refine sf_iload rfl ?_
        refine sf_f1_eq (fun h24 => ?_) (fun h24 => absurd h24 (by omega))
        refine sf_throw rfl rfl ?_
        refine sf_xout rfl rfl ?_
        refine sf_xhh (L' := [(0, .inl (.ref 0)), (1, .inl (.int a_l1)), (2, .inl (.int a_l2)), (3, .inl (.int a_l3)), (4, .inl (.ref 130))]) rfl rfl ?_
        refine sf_iconst sf_c1 (fun z25 ez25 => ?_)
        refine sf_ireturn rfl rfl ?_
        exact hR _ _ hI0 hs0 (by omega) (by omega) (by first | (refine Or.inl ⟨by omega, ?_⟩; omega) | (refine Or.inr ⟨by omega, ?_⟩; omega)) (by first | exact Or.inl ⟨by omega, rfl⟩ | exact Or.inr ⟨by omega, gg, by omega⟩)
      · refine sf_iload rfl ?_
        refine sf_iload rfl ?_
        refine sf_f2_ge (fun h26 => ?_) (fun h26 => ?_)
        · refine sf_iconst sf_c0 (fun z27 ez27 => ?_)
          refine sf_zreturn (by omega) rfl rfl ?_
          refine sf_zreturn (by omega) rfl rfl ?_
          refine sf_f1_eq (fun h28 => ?_) (fun h28 => absurd h28 (by omega))
          refine sf_iconst sf_c0 (fun z29 ez29 => ?_)
          refine sf_call1 rfl rfl rfl ?_
          refine sf_sp (L := [(0, .inl (.int z29))]) rfl rfl ?_
          refine sf_iload rfl ?_
          refine sf_f1_eq (fun h30 => ?_) (fun h30 => absurd h30 (by omega))
          refine sf_throw rfl rfl ?_
          refine sf_xout rfl rfl ?_
          refine sf_xhh (L' := [(0, .inl (.ref 0)), (1, .inl (.int a_l1)), (2, .inl (.int a_l2)), (3, .inl (.int a_l3)), (4, .inl (.ref 130))]) rfl rfl ?_
          refine sf_iconst sf_c1 (fun z31 ez31 => ?_)
          refine sf_ireturn rfl rfl ?_
          exact hR _ _ hI0 hs0 (by omega) (by omega) (by first | (refine Or.inl ⟨by omega, ?_⟩; omega) | (refine Or.inr ⟨by omega, ?_⟩; omega)) (by first | exact Or.inl ⟨by omega, rfl⟩ | exact Or.inr ⟨by omega, gg, by omega⟩)
        · refine sf_iconst sf_c1 (fun z32 ez32 => ?_)
          refine sf_zreturn (by omega) rfl rfl ?_
          refine sf_zreturn (by omega) rfl rfl ?_
          refine sf_f1_eq (fun h33 => absurd h33 (by omega)) (fun h33 => ?_)
          refine sf_iconst sf_c1 (fun z34 ez34 => ?_)
          refine sf_call1 rfl rfl rfl ?_
          refine sf_sp (L := [(0, .inl (.int z34))]) rfl rfl ?_
          refine sf_iload rfl ?_
          refine sf_f1_eq (fun h35 => absurd h35 (by omega)) (fun h35 => ?_)
          refine sf_vreturn rfl rfl ?_
          refine sf_iload rfl ?_
          refine sf_iconst sf_c0 (fun z36 ez36 => ?_)
          refine sf_iconst sf_c1000 (fun z37 ez37 => ?_)
          refine sf_call3 rfl rfl rfl ?_
          refine sf_sp (L := [(0, .inl (.int a_l3)), (1, .inl (.int z36)), (2, .inl (.int z37))]) rfl rfl ?_
          refine sf_iload rfl ?_
          refine sf_iload rfl ?_
          refine sf_f2_gt (fun h38 => ?_) (fun h38 => ?_)
          · refine sf_iconst sf_c0 (fun z39 ez39 => ?_)
            refine sf_zreturn (by omega) rfl rfl ?_
            refine sf_call1 rfl rfl rfl ?_
            refine sf_sp (L := [(0, .inl (.int z39))]) rfl rfl ?_
            refine sf_iload rfl ?_
            refine sf_f1_eq (fun h40 => ?_) (fun h40 => absurd h40 (by omega))
            refine sf_throw rfl rfl ?_
            refine sf_xout rfl rfl ?_
            refine sf_xhh (L' := [(0, .inl (.ref 0)), (1, .inl (.int a_l1)), (2, .inl (.int a_l2)), (3, .inl (.int a_l3)), (4, .inl (.ref 130))]) rfl rfl ?_
            refine sf_iconst sf_c1 (fun z41 ez41 => ?_)
            refine sf_ireturn rfl rfl ?_
            exact hR _ _ hI0 hs0 (by omega) (by omega) (by first | (refine Or.inl ⟨by omega, ?_⟩; omega) | (refine Or.inr ⟨by omega, ?_⟩; omega)) (by first | exact Or.inl ⟨by omega, rfl⟩ | exact Or.inr ⟨by omega, gg, by omega⟩)
          · refine sf_iload rfl ?_
            refine sf_iload rfl ?_
            refine sf_f2_gt (fun h42 => ?_) (fun h42 => ?_)
            · refine sf_iconst sf_c0 (fun z43 ez43 => ?_)
              refine sf_zreturn (by omega) rfl rfl ?_
              refine sf_call1 rfl rfl rfl ?_
              refine sf_sp (L := [(0, .inl (.int z43))]) rfl rfl ?_
              refine sf_iload rfl ?_
              refine sf_f1_eq (fun h44 => ?_) (fun h44 => absurd h44 (by omega))
              refine sf_throw rfl rfl ?_
              refine sf_xout rfl rfl ?_
              refine sf_xhh (L' := [(0, .inl (.ref 0)), (1, .inl (.int a_l1)), (2, .inl (.int a_l2)), (3, .inl (.int a_l3)), (4, .inl (.ref 130))]) rfl rfl ?_
              refine sf_iconst sf_c1 (fun z45 ez45 => ?_)
              refine sf_ireturn rfl rfl ?_
              exact hR _ _ hI0 hs0 (by omega) (by omega) (by first | (refine Or.inl ⟨by omega, ?_⟩; omega) | (refine Or.inr ⟨by omega, ?_⟩; omega)) (by first | exact Or.inl ⟨by omega, rfl⟩ | exact Or.inr ⟨by omega, gg, by omega⟩)
            · refine sf_iconst sf_c1 (fun z46 ez46 => ?_)
              refine sf_zreturn (by omega) rfl rfl ?_
              refine sf_call1 rfl rfl rfl ?_
              refine sf_sp (L := [(0, .inl (.int z46))]) rfl rfl ?_
              refine sf_iload rfl ?_
              refine sf_f1_eq (fun h47 => absurd h47 (by omega)) (fun h47 => ?_)
              refine sf_vreturn rfl rfl ?_
              refine sf_aload rfl ?_
              refine sf_getr hI0 rfl rfl ?_
              refine sf_getr hI0 rfl rfl ?_
              refine sf_iload rfl ?_
              refine sf_aald hI0 rfl (by omega) ?_
              refine sf_iload rfl ?_
              refine sf_gald hI0 rfl (by omega) (by omega) (fun v48 lv48 uv48 ev48 => ?_)
              refine sf_istore (L' := [(0, .inl (.ref 0)), (1, .inl (.int a_l1)), (2, .inl (.int a_l2)), (3, .inl (.int a_l3))]) rfl ?_
              refine sf_aload rfl ?_
              refine sf_getr hI0 rfl rfl ?_
              refine sf_getr hI0 rfl rfl ?_
              refine sf_iload rfl ?_
              refine sf_aald hI0 rfl (by omega) ?_
              refine sf_iload rfl ?_
              refine sf_iload rfl ?_
              refine sf_gast hI0 hs0 rfl (by omega) (by omega) (sf_bd _) rfl rfl (fun w49 Iw49 sw49 kw49 uw49 => ?_)
              clear kw49
              have gg := uw49
              refine sf_iload rfl ?_
              refine sf_ireturn rfl rfl ?_
              refine sf_i2lb (fun v50 ev50 lv50 uv50 => ?_)
              refine sf_last Iw49 sw49 rfl (by omega) rfl rfl (fun w51 Iw51 sw51 kw51 uw51 => ?_)
              have c52 := sf_mg kw51 (p := 10) rfl
              clear kw51
              have go : (sf_l w51 130 0).toInt = v50.toInt := by rw [uw51, show z1.toInt.toNat = 0 by omega]; unfold vp_updL; rw [if_pos rfl]
              refine sf_iconst sf_c0 (fun z53 ez53 => ?_)
              refine sf_ireturn rfl rfl ?_
              exact hR _ _ Iw51 sw51 (by omega) (by omega) (by first | (refine Or.inl ⟨by omega, ?_⟩; omega) | (refine Or.inr ⟨by omega, ?_⟩; omega)) (by rw [c52]; first | exact Or.inl ⟨by omega, rfl⟩ | exact Or.inr ⟨by omega, gg, by omega⟩)
def sm_W_classify_0_130 : List Nat := [11, 12, 130]
set_option maxRecDepth 100000 in
set_option maxHeartbeats 4000000 in
theorem sc_W_classify_0_130 {w0 : wq_W} (hI0 : sf_I w0) {rt : Option wq_V → wq_W → Prop} {xt : Nat → wq_W → Prop} {a_l1 : Int32}  (hR : ∀ (r : Int32) (w : wq_W), sf_I w → sf_m sm_W_classify_0_130 w0 w → 0 ≤ r.toInt → r.toInt ≤ 1 → rt (some (.inl (.int r))) w) : ks_W_classify [.inl (.ref 0), .inl (.int a_l1), .inl (.ref 130)] w0 rt xt := by
  have hs0 : sf_m sm_W_classify_0_130 w0 w0 := sf_m0
  refine sf_sp (L := [(0, .inl (.ref 0)), (1, .inl (.int a_l1)), (2, .inl (.ref 130))]) rfl rfl ?_
  refine sf_aload rfl ?_
  refine sf_iconst sf_c0 (fun z1 ez1 => ?_)
  refine sf_aload rfl ?_
  refine sf_iload rfl ?_
  refine sf_call2 rfl rfl rfl ?_
  refine sf_rv hI0 rfl ?_
  refine sf_sp (L := [(0, .inl (.ref 0)), (1, .inl (.int a_l1))]) rfl rfl ?_
  refine sf_iload rfl ?_
  refine sf_call1 rfl rfl rfl ?_
  refine sf_sp (L := [(0, .inl (.int a_l1))]) rfl rfl ?_
  refine sf_iload rfl ?_
  refine sf_iconst sf_c16 (fun z2 ez2 => ?_)
  refine sf_call2 rfl rfl rfl ?_
  refine sf_sp (L := [(0, .inl (.int a_l1)), (1, .inl (.int z2))]) rfl rfl ?_
  refine sf_iconst sf_c0 (fun z3 ez3 => ?_)
  refine sf_iload rfl ?_
  refine sf_f2_gt (fun h4 => ?_) (fun h4 => ?_)
  · refine sf_iconst sf_c0 (fun z5 ez5 => ?_)
    refine sf_zreturn (by omega) rfl rfl ?_
    refine sf_zreturn (by omega) rfl rfl ?_
    refine sf_call1 rfl rfl rfl ?_
    refine sf_sp (L := [(0, .inl (.int z5))]) rfl rfl ?_
    refine sf_iload rfl ?_
    refine sf_f1_eq (fun h6 => ?_) (fun h6 => absurd h6 (by omega))
    refine sf_throw rfl rfl ?_
    refine sf_xout rfl rfl ?_
    refine sf_xhh (L' := [(0, .inl (.ref 0)), (1, .inl (.int a_l1)), (2, .inl (.ref 130))]) rfl rfl ?_
    refine sf_iconst sf_c1 (fun z7 ez7 => ?_)
    refine sf_ireturn rfl rfl ?_
    exact hR _ _ hI0 hs0 (by omega) (by omega) 
  · refine sf_iload rfl ?_
    refine sf_iload rfl ?_
    refine sf_f2_ge (fun h8 => ?_) (fun h8 => ?_)
    · refine sf_iconst sf_c0 (fun z9 ez9 => ?_)
      refine sf_zreturn (by omega) rfl rfl ?_
      refine sf_zreturn (by omega) rfl rfl ?_
      refine sf_call1 rfl rfl rfl ?_
      refine sf_sp (L := [(0, .inl (.int z9))]) rfl rfl ?_
      refine sf_iload rfl ?_
      refine sf_f1_eq (fun h10 => ?_) (fun h10 => absurd h10 (by omega))
      refine sf_throw rfl rfl ?_
      refine sf_xout rfl rfl ?_
      refine sf_xhh (L' := [(0, .inl (.ref 0)), (1, .inl (.int a_l1)), (2, .inl (.ref 130))]) rfl rfl ?_
      refine sf_iconst sf_c1 (fun z11 ez11 => ?_)
      refine sf_ireturn rfl rfl ?_
      exact hR _ _ hI0 hs0 (by omega) (by omega) 
    · refine sf_iconst sf_c1 (fun z12 ez12 => ?_)
      refine sf_zreturn (by omega) rfl rfl ?_
      refine sf_zreturn (by omega) rfl rfl ?_
      refine sf_call1 rfl rfl rfl ?_
      refine sf_sp (L := [(0, .inl (.int z12))]) rfl rfl ?_
      refine sf_iload rfl ?_
      refine sf_f1_eq (fun h13 => absurd h13 (by omega)) (fun h13 => ?_)
      refine sf_vreturn rfl rfl ?_
      refine sf_aload rfl ?_
      refine sf_getr hI0 rfl rfl ?_
      refine sf_iload rfl ?_
      refine sf_call2 rfl rfl rfl ?_
      refine sf_rv hI0 rfl ?_
      refine sc_T_classOf hI0 (by omega) (by omega) (fun v14 w15 Iw15 tw15 lv14 uv14 => ?_)
      have s17 := sf_mt hs0 tw15 rfl
      refine sf_ireturn rfl rfl ?_
      refine sf_i2l (fun v18 ev18 => ?_)
      refine sf_last Iw15 s17 rfl (by omega) rfl rfl (fun w19 Iw19 sw19 kw19 uw19 => ?_)
      clear kw19 uw19
      refine sf_iconst sf_c0 (fun z20 ez20 => ?_)
      refine sf_ireturn rfl rfl ?_
      exact hR _ _ Iw19 sw19 (by omega) (by omega) 
def sm_W_rate_0_130 : List Nat := [13, 14, 15, 16, 17, 18, 19, 20, 130, 2301]
set_option maxRecDepth 100000 in
set_option maxHeartbeats 4000000 in
theorem sc_W_rate_0_130 {w0 : wq_W} (hI0 : sf_I w0) {rt : Option wq_V → wq_W → Prop} {xt : Nat → wq_W → Prop} {a_l1 : Int32} {a_l2 : Int32} {a_l3 : Int32} {a_l4 : Int32} {a_l5 : Int32} {a_l6 : Int32} {a_l7 : Int32}  (hR : ∀ (r : Int32) (w : wq_W), sf_I w → sf_m sm_W_rate_0_130 w0 w → 0 ≤ r.toInt → r.toInt ≤ 2 → (((r.toInt = 0 ∧ (0 ≤ a_l1.toInt ∧ a_l1.toInt < (sf_f w0 1 0).toInt ∧ -1 ≤ a_l2.toInt ∧ a_l2.toInt ≤ 7 ∧ 0 ≤ a_l3.toInt ∧ a_l3.toInt ≤ 3 ∧ 0 ≤ a_l4.toInt ∧ a_l4.toInt ≤ 10000 ∧ 0 ≤ a_l5.toInt ∧ a_l5.toInt ≤ 10000 ∧ 0 ≤ a_l6.toInt ∧ a_l6.toInt ≤ a_l7.toInt ∧ a_l7.toInt ≤ 9999) ∧ ((sf_f w0 13 1).toInt < 40) ∧ (sf_f w 13 1).toInt = (sf_f w0 13 1).toInt + 1 ∧ (sf_l w 130 0).toInt = (sf_f w0 13 1).toInt) ∨ (r.toInt = 1 ∧ ¬ (0 ≤ a_l1.toInt ∧ a_l1.toInt < (sf_f w0 1 0).toInt ∧ -1 ≤ a_l2.toInt ∧ a_l2.toInt ≤ 7 ∧ 0 ≤ a_l3.toInt ∧ a_l3.toInt ≤ 3 ∧ 0 ≤ a_l4.toInt ∧ a_l4.toInt ≤ 10000 ∧ 0 ≤ a_l5.toInt ∧ a_l5.toInt ≤ 10000 ∧ 0 ≤ a_l6.toInt ∧ a_l6.toInt ≤ a_l7.toInt ∧ a_l7.toInt ≤ 9999) ∧ (sf_f w 13 1).toInt = (sf_f w0 13 1).toInt) ∨ (r.toInt = 2 ∧ (0 ≤ a_l1.toInt ∧ a_l1.toInt < (sf_f w0 1 0).toInt ∧ -1 ≤ a_l2.toInt ∧ a_l2.toInt ≤ 7 ∧ 0 ≤ a_l3.toInt ∧ a_l3.toInt ≤ 3 ∧ 0 ≤ a_l4.toInt ∧ a_l4.toInt ≤ 10000 ∧ 0 ≤ a_l5.toInt ∧ a_l5.toInt ≤ 10000 ∧ 0 ≤ a_l6.toInt ∧ a_l6.toInt ≤ a_l7.toInt ∧ a_l7.toInt ≤ 9999) ∧ ¬ ((sf_f w0 13 1).toInt < 40) ∧ (sf_f w 13 1).toInt = (sf_f w0 13 1).toInt))) → rt (some (.inl (.int r))) w) : ks_W_rate [.inl (.ref 0), .inl (.int a_l1), .inl (.int a_l2), .inl (.int a_l3), .inl (.int a_l4), .inl (.int a_l5), .inl (.int a_l6), .inl (.int a_l7), .inl (.ref 130)] w0 rt xt := by
  have hs0 : sf_m sm_W_rate_0_130 w0 w0 := sf_m0
  refine sf_sp (L := [(0, .inl (.ref 0)), (1, .inl (.int a_l1)), (2, .inl (.int a_l2)), (3, .inl (.int a_l3)), (4, .inl (.int a_l4)), (5, .inl (.int a_l5)), (6, .inl (.int a_l6)), (7, .inl (.int a_l7)), (8, .inl (.ref 130))]) rfl rfl ?_
  refine sf_aload rfl ?_
  refine sf_iconst sf_c0 (fun z1 ez1 => ?_)
  refine sf_aload rfl ?_
  refine sf_iload rfl ?_
  refine sf_iload rfl ?_
  refine sf_iload rfl ?_
  refine sf_iload rfl ?_
  refine sf_iload rfl ?_
  refine sf_iload rfl ?_
  refine sf_iload rfl ?_
  refine sf_call8 rfl rfl rfl ?_
  refine sf_rv hI0 rfl ?_
  refine sf_sp (L := [(0, .inl (.ref 0)), (1, .inl (.int a_l1)), (2, .inl (.int a_l2)), (3, .inl (.int a_l3)), (4, .inl (.int a_l4)), (5, .inl (.int a_l5)), (6, .inl (.int a_l6)), (7, .inl (.int a_l7))]) rfl rfl ?_
  refine sf_aload rfl ?_
  refine sf_iload rfl ?_
  refine sf_call2 rfl rfl rfl ?_
  refine sf_rv hI0 rfl ?_
  refine sf_sp (L := [(0, .inl (.ref 0)), (1, .inl (.int a_l1))]) rfl rfl ?_
  refine sf_iload rfl ?_
  refine sf_aload rfl ?_
  refine sf_getr hI0 rfl rfl ?_
  refine sf_geti hI0 rfl rfl (fun v2 lv2 uv2 ev2 => ?_)
  refine sf_call2 rfl rfl rfl ?_
  refine sf_sp (L := [(0, .inl (.int a_l1)), (1, .inl (.int v2))]) rfl rfl ?_
  refine sf_iconst sf_c0 (fun z3 ez3 => ?_)
  refine sf_iload rfl ?_
  refine sf_f2_gt (fun h4 => ?_) (fun h4 => ?_)
  · refine sf_iconst sf_c0 (fun z5 ez5 => ?_)
    refine sf_zreturn (by omega) rfl rfl ?_
    refine sf_zreturn (by omega) rfl rfl ?_
    refine sf_f1_eq (fun h6 => ?_) (fun h6 => absurd h6 (by omega))
    refine sf_iconst sf_c0 (fun z7 ez7 => ?_)
    refine sf_call1 rfl rfl rfl ?_
    refine sf_sp (L := [(0, .inl (.int z7))]) rfl rfl ?_
    refine sf_iload rfl ?_
    refine sf_f1_eq (fun h8 => ?_) (fun h8 => absurd h8 (by omega))
    refine sf_throw rfl rfl ?_
    refine sf_xout rfl rfl ?_
    refine sf_xhh (L' := [(0, .inl (.ref 0)), (1, .inl (.int a_l1)), (2, .inl (.int a_l2)), (3, .inl (.int a_l3)), (4, .inl (.int a_l4)), (5, .inl (.int a_l5)), (6, .inl (.int a_l6)), (7, .inl (.int a_l7)), (8, .inl (.ref 130))]) rfl rfl ?_
    refine sf_iconst sf_c1 (fun z9 ez9 => ?_)
    refine sf_ireturn rfl rfl ?_
    exact hR _ _ hI0 hs0 (by omega) (by omega) (by first | (refine Or.inl ⟨by omega, ?_⟩; omega) | (refine Or.inr (Or.inl ⟨by omega, ?_⟩); omega) | (refine Or.inr (Or.inr ⟨by omega, ?_⟩); omega))
  · refine sf_iload rfl ?_
    refine sf_iload rfl ?_
    refine sf_f2_ge (fun h10 => ?_) (fun h10 => ?_)
    · refine sf_iconst sf_c0 (fun z11 ez11 => ?_)
      refine sf_zreturn (by omega) rfl rfl ?_
      refine sf_zreturn (by omega) rfl rfl ?_
      refine sf_f1_eq (fun h12 => ?_) (fun h12 => absurd h12 (by omega))
      refine sf_iconst sf_c0 (fun z13 ez13 => ?_)
      refine sf_call1 rfl rfl rfl ?_
      refine sf_sp (L := [(0, .inl (.int z13))]) rfl rfl ?_
      refine sf_iload rfl ?_
      refine sf_f1_eq (fun h14 => ?_) (fun h14 => absurd h14 (by omega))
      refine sf_throw rfl rfl ?_
      refine sf_xout rfl rfl ?_
      refine sf_xhh (L' := [(0, .inl (.ref 0)), (1, .inl (.int a_l1)), (2, .inl (.int a_l2)), (3, .inl (.int a_l3)), (4, .inl (.int a_l4)), (5, .inl (.int a_l5)), (6, .inl (.int a_l6)), (7, .inl (.int a_l7)), (8, .inl (.ref 130))]) rfl rfl ?_
      refine sf_iconst sf_c1 (fun z15 ez15 => ?_)
      refine sf_ireturn rfl rfl ?_
      exact hR _ _ hI0 hs0 (by omega) (by omega) (by first | (refine Or.inl ⟨by omega, ?_⟩; omega) | (refine Or.inr (Or.inl ⟨by omega, ?_⟩); omega) | (refine Or.inr (Or.inr ⟨by omega, ?_⟩); omega))
    · refine sf_iconst sf_c1 (fun z16 ez16 => ?_)
      refine sf_zreturn (by omega) rfl rfl ?_
      refine sf_zreturn (by omega) rfl rfl ?_
      refine sf_f1_eq (fun h17 => absurd h17 (by omega)) (fun h17 => ?_)
      refine sf_iload rfl ?_
      refine sf_iconst sf_cm1 (fun z18 ez18 => ?_)
      refine sf_f2_eq (fun h19 => ?_) (fun h19 => ?_)
      · refine sf_iconst sf_c1 (fun z20 ez20 => ?_)
        refine sf_call1 rfl rfl rfl ?_
        refine sf_sp (L := [(0, .inl (.int z20))]) rfl rfl ?_
        refine sf_iload rfl ?_
        refine sf_f1_eq (fun h21 => absurd h21 (by omega)) (fun h21 => ?_)
        refine sf_vreturn rfl rfl ?_
        refine sf_iload rfl ?_
        refine sf_iconst sf_c0 (fun z22 ez22 => ?_)
        refine sf_iconst sf_c3 (fun z23 ez23 => ?_)
        refine sf_call3 rfl rfl rfl ?_
        refine sf_sp (L := [(0, .inl (.int a_l3)), (1, .inl (.int z22)), (2, .inl (.int z23))]) rfl rfl ?_
        refine sf_iload rfl ?_
        refine sf_iload rfl ?_
        refine sf_f2_gt (fun h24 => ?_) (fun h24 => ?_)
        · refine sf_iconst sf_c0 (fun z25 ez25 => ?_)
          refine sf_zreturn (by omega) rfl rfl ?_
          refine sf_call1 rfl rfl rfl ?_
          refine sf_sp (L := [(0, .inl (.int z25))]) rfl rfl ?_
          refine sf_iload rfl ?_
          refine sf_f1_eq (fun h26 => ?_) (fun h26 => absurd h26 (by omega))
          refine sf_throw rfl rfl ?_
          refine sf_xout rfl rfl ?_
          refine sf_xhh (L' := [(0, .inl (.ref 0)), (1, .inl (.int a_l1)), (2, .inl (.int a_l2)), (3, .inl (.int a_l3)), (4, .inl (.int a_l4)), (5, .inl (.int a_l5)), (6, .inl (.int a_l6)), (7, .inl (.int a_l7)), (8, .inl (.ref 130))]) rfl rfl ?_
          refine sf_iconst sf_c1 (fun z27 ez27 => ?_)
          refine sf_ireturn rfl rfl ?_
          exact hR _ _ hI0 hs0 (by omega) (by omega) (by first | (refine Or.inl ⟨by omega, ?_⟩; omega) | (refine Or.inr (Or.inl ⟨by omega, ?_⟩); omega) | (refine Or.inr (Or.inr ⟨by omega, ?_⟩); omega))
        · refine sf_iload rfl ?_
          refine sf_iload rfl ?_
          refine sf_f2_gt (fun h28 => ?_) (fun h28 => ?_)
          · refine sf_iconst sf_c0 (fun z29 ez29 => ?_)
            refine sf_zreturn (by omega) rfl rfl ?_
            refine sf_call1 rfl rfl rfl ?_
            refine sf_sp (L := [(0, .inl (.int z29))]) rfl rfl ?_
            refine sf_iload rfl ?_
            refine sf_f1_eq (fun h30 => ?_) (fun h30 => absurd h30 (by omega))
            refine sf_throw rfl rfl ?_
            refine sf_xout rfl rfl ?_
            refine sf_xhh (L' := [(0, .inl (.ref 0)), (1, .inl (.int a_l1)), (2, .inl (.int a_l2)), (3, .inl (.int a_l3)), (4, .inl (.int a_l4)), (5, .inl (.int a_l5)), (6, .inl (.int a_l6)), (7, .inl (.int a_l7)), (8, .inl (.ref 130))]) rfl rfl ?_
            refine sf_iconst sf_c1 (fun z31 ez31 => ?_)
            refine sf_ireturn rfl rfl ?_
            exact hR _ _ hI0 hs0 (by omega) (by omega) (by first | (refine Or.inl ⟨by omega, ?_⟩; omega) | (refine Or.inr (Or.inl ⟨by omega, ?_⟩); omega) | (refine Or.inr (Or.inr ⟨by omega, ?_⟩); omega))
          · refine sf_iconst sf_c1 (fun z32 ez32 => ?_)
            refine sf_zreturn (by omega) rfl rfl ?_
            refine sf_call1 rfl rfl rfl ?_
            refine sf_sp (L := [(0, .inl (.int z32))]) rfl rfl ?_
            refine sf_iload rfl ?_
            refine sf_f1_eq (fun h33 => absurd h33 (by omega)) (fun h33 => ?_)
            refine sf_vreturn rfl rfl ?_
            refine sf_iload rfl ?_
            refine sf_iconst sf_c0 (fun z34 ez34 => ?_)
            refine sf_iconst sf_c10000 (fun z35 ez35 => ?_)
            refine sf_call3 rfl rfl rfl ?_
            refine sf_sp (L := [(0, .inl (.int a_l4)), (1, .inl (.int z34)), (2, .inl (.int z35))]) rfl rfl ?_
            refine sf_iload rfl ?_
            refine sf_iload rfl ?_
            refine sf_f2_gt (fun h36 => ?_) (fun h36 => ?_)
            · refine sf_iconst sf_c0 (fun z37 ez37 => ?_)
              refine sf_zreturn (by omega) rfl rfl ?_
              refine sf_f1_eq (fun h38 => ?_) (fun h38 => absurd h38 (by omega))
              refine sf_iconst sf_c0 (fun z39 ez39 => ?_)
              refine sf_call1 rfl rfl rfl ?_
              refine sf_sp (L := [(0, .inl (.int z39))]) rfl rfl ?_
              refine sf_iload rfl ?_
              refine sf_f1_eq (fun h40 => ?_) (fun h40 => absurd h40 (by omega))
              refine sf_throw rfl rfl ?_
              refine sf_xout rfl rfl ?_
              refine sf_xhh (L' := [(0, .inl (.ref 0)), (1, .inl (.int a_l1)), (2, .inl (.int a_l2)), (3, .inl (.int a_l3)), (4, .inl (.int a_l4)), (5, .inl (.int a_l5)), (6, .inl (.int a_l6)), (7, .inl (.int a_l7)), (8, .inl (.ref 130))]) rfl rfl ?_
              refine sf_iconst sf_c1 (fun z41 ez41 => ?_)
              refine sf_ireturn rfl rfl ?_
              exact hR _ _ hI0 hs0 (by omega) (by omega) (by first | (refine Or.inl ⟨by omega, ?_⟩; omega) | (refine Or.inr (Or.inl ⟨by omega, ?_⟩); omega) | (refine Or.inr (Or.inr ⟨by omega, ?_⟩); omega))
            · refine sf_iload rfl ?_
              refine sf_iload rfl ?_
              refine sf_f2_gt (fun h42 => ?_) (fun h42 => ?_)
              · refine sf_iconst sf_c0 (fun z43 ez43 => ?_)
                refine sf_zreturn (by omega) rfl rfl ?_
                refine sf_f1_eq (fun h44 => ?_) (fun h44 => absurd h44 (by omega))
                refine sf_iconst sf_c0 (fun z45 ez45 => ?_)
                refine sf_call1 rfl rfl rfl ?_
                refine sf_sp (L := [(0, .inl (.int z45))]) rfl rfl ?_
                refine sf_iload rfl ?_
                refine sf_f1_eq (fun h46 => ?_) (fun h46 => absurd h46 (by omega))
                refine sf_throw rfl rfl ?_
                refine sf_xout rfl rfl ?_
                refine sf_xhh (L' := [(0, .inl (.ref 0)), (1, .inl (.int a_l1)), (2, .inl (.int a_l2)), (3, .inl (.int a_l3)), (4, .inl (.int a_l4)), (5, .inl (.int a_l5)), (6, .inl (.int a_l6)), (7, .inl (.int a_l7)), (8, .inl (.ref 130))]) rfl rfl ?_
                refine sf_iconst sf_c1 (fun z47 ez47 => ?_)
                refine sf_ireturn rfl rfl ?_
                exact hR _ _ hI0 hs0 (by omega) (by omega) (by first | (refine Or.inl ⟨by omega, ?_⟩; omega) | (refine Or.inr (Or.inl ⟨by omega, ?_⟩); omega) | (refine Or.inr (Or.inr ⟨by omega, ?_⟩); omega))
              · refine sf_iconst sf_c1 (fun z48 ez48 => ?_)
                refine sf_zreturn (by omega) rfl rfl ?_
                refine sf_f1_eq (fun h49 => absurd h49 (by omega)) (fun h49 => ?_)
                refine sf_iload rfl ?_
                refine sf_iconst sf_c0 (fun z50 ez50 => ?_)
                refine sf_iconst sf_c10000 (fun z51 ez51 => ?_)
                refine sf_call3 rfl rfl rfl ?_
                refine sf_sp (L := [(0, .inl (.int a_l5)), (1, .inl (.int z50)), (2, .inl (.int z51))]) rfl rfl ?_
                refine sf_iload rfl ?_
                refine sf_iload rfl ?_
                refine sf_f2_gt (fun h52 => ?_) (fun h52 => ?_)
                · refine sf_iconst sf_c0 (fun z53 ez53 => ?_)
                  refine sf_zreturn (by omega) rfl rfl ?_
                  refine sf_f1_eq (fun h54 => ?_) (fun h54 => absurd h54 (by omega))
                  refine sf_iconst sf_c0 (fun z55 ez55 => ?_)
                  refine sf_call1 rfl rfl rfl ?_
                  refine sf_sp (L := [(0, .inl (.int z55))]) rfl rfl ?_
                  refine sf_iload rfl ?_
                  refine sf_f1_eq (fun h56 => ?_) (fun h56 => absurd h56 (by omega))
                  refine sf_throw rfl rfl ?_
                  refine sf_xout rfl rfl ?_
                  refine sf_xhh (L' := [(0, .inl (.ref 0)), (1, .inl (.int a_l1)), (2, .inl (.int a_l2)), (3, .inl (.int a_l3)), (4, .inl (.int a_l4)), (5, .inl (.int a_l5)), (6, .inl (.int a_l6)), (7, .inl (.int a_l7)), (8, .inl (.ref 130))]) rfl rfl ?_
                  refine sf_iconst sf_c1 (fun z57 ez57 => ?_)
                  refine sf_ireturn rfl rfl ?_
                  exact hR _ _ hI0 hs0 (by omega) (by omega) (by first | (refine Or.inl ⟨by omega, ?_⟩; omega) | (refine Or.inr (Or.inl ⟨by omega, ?_⟩); omega) | (refine Or.inr (Or.inr ⟨by omega, ?_⟩); omega))
                · refine sf_iload rfl ?_
                  refine sf_iload rfl ?_
                  refine sf_f2_gt (fun h58 => ?_) (fun h58 => ?_)
                  · refine sf_iconst sf_c0 (fun z59 ez59 => ?_)
                    refine sf_zreturn (by omega) rfl rfl ?_
                    refine sf_f1_eq (fun h60 => ?_) (fun h60 => absurd h60 (by omega))
                    refine sf_iconst sf_c0 (fun z61 ez61 => ?_)
                    refine sf_call1 rfl rfl rfl ?_
                    refine sf_sp (L := [(0, .inl (.int z61))]) rfl rfl ?_
                    refine sf_iload rfl ?_
                    refine sf_f1_eq (fun h62 => ?_) (fun h62 => absurd h62 (by omega))
                    refine sf_throw rfl rfl ?_
                    refine sf_xout rfl rfl ?_
                    refine sf_xhh (L' := [(0, .inl (.ref 0)), (1, .inl (.int a_l1)), (2, .inl (.int a_l2)), (3, .inl (.int a_l3)), (4, .inl (.int a_l4)), (5, .inl (.int a_l5)), (6, .inl (.int a_l6)), (7, .inl (.int a_l7)), (8, .inl (.ref 130))]) rfl rfl ?_
                    refine sf_iconst sf_c1 (fun z63 ez63 => ?_)
                    refine sf_ireturn rfl rfl ?_
                    exact hR _ _ hI0 hs0 (by omega) (by omega) (by first | (refine Or.inl ⟨by omega, ?_⟩; omega) | (refine Or.inr (Or.inl ⟨by omega, ?_⟩); omega) | (refine Or.inr (Or.inr ⟨by omega, ?_⟩); omega))
                  · refine sf_iconst sf_c1 (fun z64 ez64 => ?_)
                    refine sf_zreturn (by omega) rfl rfl ?_
                    refine sf_f1_eq (fun h65 => absurd h65 (by omega)) (fun h65 => ?_)
                    refine sf_iconst sf_c1 (fun z66 ez66 => ?_)
                    refine sf_call1 rfl rfl rfl ?_
                    refine sf_sp (L := [(0, .inl (.int z66))]) rfl rfl ?_
                    refine sf_iload rfl ?_
                    refine sf_f1_eq (fun h67 => absurd h67 (by omega)) (fun h67 => ?_)
                    refine sf_vreturn rfl rfl ?_
                    refine sf_iload rfl ?_
                    refine sf_call1 rfl rfl rfl ?_
                    refine sf_sp (L := [(0, .inl (.int a_l6))]) rfl rfl ?_
                    refine sf_iload rfl ?_
                    refine sf_iconst sf_c10000 (fun z68 ez68 => ?_)
                    refine sf_call2 rfl rfl rfl ?_
                    refine sf_sp (L := [(0, .inl (.int a_l6)), (1, .inl (.int z68))]) rfl rfl ?_
                    refine sf_iconst sf_c0 (fun z69 ez69 => ?_)
                    refine sf_iload rfl ?_
                    refine sf_f2_gt (fun h70 => ?_) (fun h70 => ?_)
                    · refine sf_iconst sf_c0 (fun z71 ez71 => ?_)
                      refine sf_zreturn (by omega) rfl rfl ?_
                      refine sf_zreturn (by omega) rfl rfl ?_
                      refine sf_f1_eq (fun h72 => ?_) (fun h72 => absurd h72 (by omega))
                      refine sf_iconst sf_c0 (fun z73 ez73 => ?_)
                      refine sf_call1 rfl rfl rfl ?_
                      refine sf_sp (L := [(0, .inl (.int z73))]) rfl rfl ?_
                      refine sf_iload rfl ?_
                      refine sf_f1_eq (fun h74 => ?_) (fun h74 => absurd h74 (by omega))
                      refine sf_throw rfl rfl ?_
                      refine sf_xout rfl rfl ?_
                      refine sf_xhh (L' := [(0, .inl (.ref 0)), (1, .inl (.int a_l1)), (2, .inl (.int a_l2)), (3, .inl (.int a_l3)), (4, .inl (.int a_l4)), (5, .inl (.int a_l5)), (6, .inl (.int a_l6)), (7, .inl (.int a_l7)), (8, .inl (.ref 130))]) rfl rfl ?_
                      refine sf_iconst sf_c1 (fun z75 ez75 => ?_)
                      refine sf_ireturn rfl rfl ?_
                      exact hR _ _ hI0 hs0 (by omega) (by omega) (by first | (refine Or.inl ⟨by omega, ?_⟩; omega) | (refine Or.inr (Or.inl ⟨by omega, ?_⟩); omega) | (refine Or.inr (Or.inr ⟨by omega, ?_⟩); omega))
                    · refine sf_iload rfl ?_
                      refine sf_iload rfl ?_
                      refine sf_f2_ge (fun h76 => ?_) (fun h76 => ?_)
                      · refine sf_iconst sf_c0 (fun z77 ez77 => ?_)
                        refine sf_zreturn (by omega) rfl rfl ?_
                        refine sf_zreturn (by omega) rfl rfl ?_
                        refine sf_f1_eq (fun h78 => ?_) (fun h78 => absurd h78 (by omega))
                        refine sf_iconst sf_c0 (fun z79 ez79 => ?_)
                        refine sf_call1 rfl rfl rfl ?_
                        refine sf_sp (L := [(0, .inl (.int z79))]) rfl rfl ?_
                        refine sf_iload rfl ?_
                        refine sf_f1_eq (fun h80 => ?_) (fun h80 => absurd h80 (by omega))
                        refine sf_throw rfl rfl ?_
                        refine sf_xout rfl rfl ?_
                        refine sf_xhh (L' := [(0, .inl (.ref 0)), (1, .inl (.int a_l1)), (2, .inl (.int a_l2)), (3, .inl (.int a_l3)), (4, .inl (.int a_l4)), (5, .inl (.int a_l5)), (6, .inl (.int a_l6)), (7, .inl (.int a_l7)), (8, .inl (.ref 130))]) rfl rfl ?_
                        refine sf_iconst sf_c1 (fun z81 ez81 => ?_)
                        refine sf_ireturn rfl rfl ?_
                        exact hR _ _ hI0 hs0 (by omega) (by omega) (by first | (refine Or.inl ⟨by omega, ?_⟩; omega) | (refine Or.inr (Or.inl ⟨by omega, ?_⟩); omega) | (refine Or.inr (Or.inr ⟨by omega, ?_⟩); omega))
                      · refine sf_iconst sf_c1 (fun z82 ez82 => ?_)
                        refine sf_zreturn (by omega) rfl rfl ?_
                        refine sf_zreturn (by omega) rfl rfl ?_
                        refine sf_f1_eq (fun h83 => absurd h83 (by omega)) (fun h83 => ?_)
                        refine sf_iload rfl ?_
                        refine sf_call1 rfl rfl rfl ?_
                        refine sf_sp (L := [(0, .inl (.int a_l7))]) rfl rfl ?_
                        refine sf_iload rfl ?_
                        refine sf_iconst sf_c10000 (fun z84 ez84 => ?_)
                        refine sf_call2 rfl rfl rfl ?_
                        refine sf_sp (L := [(0, .inl (.int a_l7)), (1, .inl (.int z84))]) rfl rfl ?_
                        refine sf_iconst sf_c0 (fun z85 ez85 => ?_)
                        refine sf_iload rfl ?_
                        refine sf_f2_gt (fun h86 => ?_) (fun h86 => ?_)
                        · refine sf_iconst sf_c0 (fun z87 ez87 => ?_)
                          refine sf_zreturn (by omega) rfl rfl ?_
                          refine sf_zreturn (by omega) rfl rfl ?_
                          refine sf_f1_eq (fun h88 => ?_) (fun h88 => absurd h88 (by omega))
                          refine sf_iconst sf_c0 (fun z89 ez89 => ?_)
                          refine sf_call1 rfl rfl rfl ?_
                          refine sf_sp (L := [(0, .inl (.int z89))]) rfl rfl ?_
                          refine sf_iload rfl ?_
                          refine sf_f1_eq (fun h90 => ?_) (fun h90 => absurd h90 (by omega))
                          refine sf_throw rfl rfl ?_
                          refine sf_xout rfl rfl ?_
                          refine sf_xhh (L' := [(0, .inl (.ref 0)), (1, .inl (.int a_l1)), (2, .inl (.int a_l2)), (3, .inl (.int a_l3)), (4, .inl (.int a_l4)), (5, .inl (.int a_l5)), (6, .inl (.int a_l6)), (7, .inl (.int a_l7)), (8, .inl (.ref 130))]) rfl rfl ?_
                          refine sf_iconst sf_c1 (fun z91 ez91 => ?_)
                          refine sf_ireturn rfl rfl ?_
                          exact hR _ _ hI0 hs0 (by omega) (by omega) (by first | (refine Or.inl ⟨by omega, ?_⟩; omega) | (refine Or.inr (Or.inl ⟨by omega, ?_⟩); omega) | (refine Or.inr (Or.inr ⟨by omega, ?_⟩); omega))
                        · refine sf_iload rfl ?_
                          refine sf_iload rfl ?_
                          refine sf_f2_ge (fun h92 => ?_) (fun h92 => ?_)
                          · refine sf_iconst sf_c0 (fun z93 ez93 => ?_)
                            refine sf_zreturn (by omega) rfl rfl ?_
                            refine sf_zreturn (by omega) rfl rfl ?_
                            refine sf_f1_eq (fun h94 => ?_) (fun h94 => absurd h94 (by omega))
                            refine sf_iconst sf_c0 (fun z95 ez95 => ?_)
                            refine sf_call1 rfl rfl rfl ?_
                            refine sf_sp (L := [(0, .inl (.int z95))]) rfl rfl ?_
                            refine sf_iload rfl ?_
                            refine sf_f1_eq (fun h96 => ?_) (fun h96 => absurd h96 (by omega))
                            refine sf_throw rfl rfl ?_
                            refine sf_xout rfl rfl ?_
                            refine sf_xhh (L' := [(0, .inl (.ref 0)), (1, .inl (.int a_l1)), (2, .inl (.int a_l2)), (3, .inl (.int a_l3)), (4, .inl (.int a_l4)), (5, .inl (.int a_l5)), (6, .inl (.int a_l6)), (7, .inl (.int a_l7)), (8, .inl (.ref 130))]) rfl rfl ?_
                            refine sf_iconst sf_c1 (fun z97 ez97 => ?_)
                            refine sf_ireturn rfl rfl ?_
                            exact hR _ _ hI0 hs0 (by omega) (by omega) (by first | (refine Or.inl ⟨by omega, ?_⟩; omega) | (refine Or.inr (Or.inl ⟨by omega, ?_⟩); omega) | (refine Or.inr (Or.inr ⟨by omega, ?_⟩); omega))
                          · refine sf_iconst sf_c1 (fun z98 ez98 => ?_)
                            refine sf_zreturn (by omega) rfl rfl ?_
                            refine sf_zreturn (by omega) rfl rfl ?_
                            refine sf_f1_eq (fun h99 => absurd h99 (by omega)) (fun h99 => ?_)
                            refine sf_iload rfl ?_
                            refine sf_iload rfl ?_
                            refine sf_f2_gt (fun h100 => ?_) (fun h100 => ?_)
                            · refine sf_iconst sf_c0 (fun z101 ez101 => ?_)
                              refine sf_call1 rfl rfl rfl ?_
                              refine sf_sp (L := [(0, .inl (.int z101))]) rfl rfl ?_
                              refine sf_iload rfl ?_
                              refine sf_f1_eq (fun h102 => ?_) (fun h102 => absurd h102 (by omega))
                              refine sf_throw rfl rfl ?_
                              refine sf_xout rfl rfl ?_
                              refine sf_xhh (L' := [(0, .inl (.ref 0)), (1, .inl (.int a_l1)), (2, .inl (.int a_l2)), (3, .inl (.int a_l3)), (4, .inl (.int a_l4)), (5, .inl (.int a_l5)), (6, .inl (.int a_l6)), (7, .inl (.int a_l7)), (8, .inl (.ref 130))]) rfl rfl ?_
                              refine sf_iconst sf_c1 (fun z103 ez103 => ?_)
                              refine sf_ireturn rfl rfl ?_
                              exact hR _ _ hI0 hs0 (by omega) (by omega) (by first | (refine Or.inl ⟨by omega, ?_⟩; omega) | (refine Or.inr (Or.inl ⟨by omega, ?_⟩); omega) | (refine Or.inr (Or.inr ⟨by omega, ?_⟩); omega))
                            · refine sf_iconst sf_c1 (fun z104 ez104 => ?_)
                              refine sf_call1 rfl rfl rfl ?_
                              refine sf_sp (L := [(0, .inl (.int z104))]) rfl rfl ?_
                              refine sf_iload rfl ?_
                              refine sf_f1_eq (fun h105 => absurd h105 (by omega)) (fun h105 => ?_)
                              refine sf_vreturn rfl rfl ?_
                              refine sf_aload rfl ?_
                              refine sf_getr hI0 rfl rfl ?_
                              refine sf_geti hI0 rfl rfl (fun v106 lv106 uv106 ev106 => ?_)
                              refine sf_iconst sf_c40 (fun z107 ez107 => ?_)
                              refine sf_f2_ge (fun h108 => ?_) (fun h108 => ?_)
                              · refine sf_iconst sf_c0 (fun z109 ez109 => ?_)
                                refine sf_call1 rfl rfl rfl ?_
                                refine sf_sp (L := [(0, .inl (.int z109))]) rfl rfl ?_
                                refine sf_iload rfl ?_
                                refine sf_f1_eq (fun h110 => ?_) (fun h110 => absurd h110 (by omega))
                                refine sf_throw rfl rfl ?_
                                refine sf_xout rfl rfl ?_
                                refine sf_xhm rfl ?_
                                refine sf_xhh (L' := [(0, .inl (.ref 0)), (1, .inl (.int a_l1)), (2, .inl (.int a_l2)), (3, .inl (.int a_l3)), (4, .inl (.int a_l4)), (5, .inl (.int a_l5)), (6, .inl (.int a_l6)), (7, .inl (.int a_l7)), (8, .inl (.ref 130))]) rfl rfl ?_
                                refine sf_iconst sf_c2 (fun z111 ez111 => ?_)
                                refine sf_ireturn rfl rfl ?_
                                exact hR _ _ hI0 hs0 (by omega) (by omega) (by first | (refine Or.inl ⟨by omega, ?_⟩; omega) | (refine Or.inr (Or.inl ⟨by omega, ?_⟩); omega) | (refine Or.inr (Or.inr ⟨by omega, ?_⟩); omega))
                              · refine sf_iconst sf_c1 (fun z112 ez112 => ?_)
                                refine sf_call1 rfl rfl rfl ?_
                                refine sf_sp (L := [(0, .inl (.int z112))]) rfl rfl ?_
                                refine sf_iload rfl ?_
                                refine sf_f1_eq (fun h113 => absurd h113 (by omega)) (fun h113 => ?_)
                                refine sf_vreturn rfl rfl ?_
                                refine sf_aload rfl ?_
                                refine sf_getr hI0 rfl rfl ?_
                                refine sf_iload rfl ?_
                                refine sf_iload rfl ?_
                                refine sf_iload rfl ?_
                                refine sf_iload rfl ?_
                                refine sf_iload rfl ?_
                                refine sf_iload rfl ?_
                                refine sf_iload rfl ?_
                                refine sf_call8 rfl rfl rfl ?_
                                refine sf_rv hI0 rfl ?_
                                refine sf_sp (L := [(0, .inl (.ref 13)), (1, .inl (.int a_l1)), (2, .inl (.int a_l2)), (3, .inl (.int a_l3)), (4, .inl (.int a_l4)), (5, .inl (.int a_l5)), (6, .inl (.int a_l6)), (7, .inl (.int a_l7))]) rfl rfl ?_
                                refine sf_aload rfl ?_
                                refine sf_geti hI0 rfl rfl (fun v114 lv114 uv114 ev114 => ?_)
                                refine sf_istore (L' := [(0, .inl (.ref 13)), (1, .inl (.int a_l1)), (2, .inl (.int a_l2)), (3, .inl (.int a_l3)), (4, .inl (.int a_l4)), (5, .inl (.int a_l5)), (6, .inl (.int a_l6)), (7, .inl (.int a_l7))]) rfl ?_
                                refine sf_aload rfl ?_
                                refine sf_getr hI0 rfl rfl ?_
                                refine sf_iload rfl ?_
                                refine sf_iload rfl ?_
                                refine sf_iast hI0 hs0 rfl (by omega) (sf_bd _) rfl rfl (fun w115 Iw115 sw115 kw115 uw115 => ?_)
                                have c116 := sf_mf kw115 (p := 13) (j := 1) rfl
                                clear kw115 uw115
                                refine sf_aload rfl ?_
                                refine sf_getr Iw115 rfl rfl ?_
                                refine sf_iload rfl ?_
                                refine sf_iload rfl ?_
                                refine sf_iast Iw115 sw115 rfl (by omega) (sf_bd _) rfl rfl (fun w117 Iw117 sw117 kw117 uw117 => ?_)
                                have c118 := sf_mf kw117 (p := 13) (j := 1) rfl
                                clear kw117 uw117
                                refine sf_aload rfl ?_
                                refine sf_getr Iw117 rfl rfl ?_
                                refine sf_iload rfl ?_
                                refine sf_iload rfl ?_
                                refine sf_iast Iw117 sw117 rfl (by omega) (sf_bd _) rfl rfl (fun w119 Iw119 sw119 kw119 uw119 => ?_)
                                have c120 := sf_mf kw119 (p := 13) (j := 1) rfl
                                clear kw119 uw119
                                refine sf_aload rfl ?_
                                refine sf_getr Iw119 rfl rfl ?_
                                refine sf_iload rfl ?_
                                refine sf_iload rfl ?_
                                refine sf_iast Iw119 sw119 rfl (by omega) (sf_bd _) rfl rfl (fun w121 Iw121 sw121 kw121 uw121 => ?_)
                                have c122 := sf_mf kw121 (p := 13) (j := 1) rfl
                                clear kw121 uw121
                                refine sf_aload rfl ?_
                                refine sf_getr Iw121 rfl rfl ?_
                                refine sf_iload rfl ?_
                                refine sf_iload rfl ?_
                                refine sf_iast Iw121 sw121 rfl (by omega) (sf_bd _) rfl rfl (fun w123 Iw123 sw123 kw123 uw123 => ?_)
                                have c124 := sf_mf kw123 (p := 13) (j := 1) rfl
                                clear kw123 uw123
                                refine sf_aload rfl ?_
                                refine sf_getr Iw123 rfl rfl ?_
                                refine sf_iload rfl ?_
                                refine sf_iload rfl ?_
                                refine sf_iast Iw123 sw123 rfl (by omega) (sf_bd _) rfl rfl (fun w125 Iw125 sw125 kw125 uw125 => ?_)
                                have c126 := sf_mf kw125 (p := 13) (j := 1) rfl
                                clear kw125 uw125
                                refine sf_aload rfl ?_
                                refine sf_getr Iw125 rfl rfl ?_
                                refine sf_iload rfl ?_
                                refine sf_iload rfl ?_
                                refine sf_iast Iw125 sw125 rfl (by omega) (sf_bd _) rfl rfl (fun w127 Iw127 sw127 kw127 uw127 => ?_)
                                have c128 := sf_mf kw127 (p := 13) (j := 1) rfl
                                clear kw127 uw127
                                refine sf_aload rfl ?_
                                refine sf_dup rfl ?_
                                refine sf_geti Iw127 rfl rfl (fun v129 lv129 uv129 ev129 => ?_)
                                rw [c128, c126, c124, c122, c120, c118, c116] at ev129
                                refine sf_iconst sf_c1 (fun z130 ez130 => ?_)
                                refine sf_iadd (by omega) (fun v131 ev131 => ?_)
                                refine sf_puti Iw127 sw127 rfl rfl (by omega) rfl rfl rfl (fun w132 Iw132 sw132 kw132 uw132 => ?_)
                                clear kw132
                                refine sf_iload rfl ?_
                                refine sf_ireturn rfl rfl ?_
                                refine sf_ireturn rfl rfl ?_
                                refine sf_i2l (fun v133 ev133 => ?_)
                                refine sf_last Iw132 sw132 rfl (by omega) rfl rfl (fun w134 Iw134 sw134 kw134 uw134 => ?_)
                                have c135 := sf_mf kw134 (p := 13) (j := 1) rfl
                                clear kw134
                                have go : (sf_l w134 130 0).toInt = v133.toInt := by rw [uw134, show z1.toInt.toNat = 0 by omega]; unfold vp_updL; rw [if_pos rfl]
                                refine sf_iconst sf_c0 (fun z136 ez136 => ?_)
                                refine sf_ireturn rfl rfl ?_
                                exact hR _ _ Iw134 sw134 (by omega) (by omega) (by rw [c135, uw132]; first | (refine Or.inl ⟨by omega, ?_⟩; omega) | (refine Or.inr (Or.inl ⟨by omega, ?_⟩); omega) | (refine Or.inr (Or.inr ⟨by omega, ?_⟩); omega))
      · refine sf_iload rfl ?_
        refine sf_call1 rfl rfl rfl ?_
        refine sf_sp (L := [(0, .inl (.int a_l2))]) rfl rfl ?_
        refine sf_iload rfl ?_
        refine sf_iconst sf_c8 (fun z137 ez137 => ?_)
        refine sf_call2 rfl rfl rfl ?_
        refine sf_sp (L := [(0, .inl (.int a_l2)), (1, .inl (.int z137))]) rfl rfl ?_
        refine sf_iconst sf_c0 (fun z138 ez138 => ?_)
        refine sf_iload rfl ?_
        refine sf_f2_gt (fun h139 => ?_) (fun h139 => ?_)
        · refine sf_iconst sf_c0 (fun z140 ez140 => ?_)
          refine sf_zreturn (by omega) rfl rfl ?_
          refine sf_zreturn (by omega) rfl rfl ?_
          refine sf_f1_eq (fun h141 => ?_) (fun h141 => absurd h141 (by omega))
          refine sf_iconst sf_c0 (fun z142 ez142 => ?_)
          refine sf_call1 rfl rfl rfl ?_
          refine sf_sp (L := [(0, .inl (.int z142))]) rfl rfl ?_
          refine sf_iload rfl ?_
          refine sf_f1_eq (fun h143 => ?_) (fun h143 => absurd h143 (by omega))
          refine sf_throw rfl rfl ?_
          refine sf_xout rfl rfl ?_
          refine sf_xhh (L' := [(0, .inl (.ref 0)), (1, .inl (.int a_l1)), (2, .inl (.int a_l2)), (3, .inl (.int a_l3)), (4, .inl (.int a_l4)), (5, .inl (.int a_l5)), (6, .inl (.int a_l6)), (7, .inl (.int a_l7)), (8, .inl (.ref 130))]) rfl rfl ?_
          refine sf_iconst sf_c1 (fun z144 ez144 => ?_)
          refine sf_ireturn rfl rfl ?_
          exact hR _ _ hI0 hs0 (by omega) (by omega) (by first | (refine Or.inl ⟨by omega, ?_⟩; omega) | (refine Or.inr (Or.inl ⟨by omega, ?_⟩); omega) | (refine Or.inr (Or.inr ⟨by omega, ?_⟩); omega))
        · refine sf_iload rfl ?_
          refine sf_iload rfl ?_
          refine sf_f2_ge (fun h145 => ?_) (fun h145 => ?_)
          · refine sf_iconst sf_c0 (fun z146 ez146 => ?_)
            refine sf_zreturn (by omega) rfl rfl ?_
            refine sf_zreturn (by omega) rfl rfl ?_
            refine sf_f1_eq (fun h147 => ?_) (fun h147 => absurd h147 (by omega))
            refine sf_iconst sf_c0 (fun z148 ez148 => ?_)
            refine sf_call1 rfl rfl rfl ?_
            refine sf_sp (L := [(0, .inl (.int z148))]) rfl rfl ?_
            refine sf_iload rfl ?_
            refine sf_f1_eq (fun h149 => ?_) (fun h149 => absurd h149 (by omega))
            refine sf_throw rfl rfl ?_
            refine sf_xout rfl rfl ?_
            refine sf_xhh (L' := [(0, .inl (.ref 0)), (1, .inl (.int a_l1)), (2, .inl (.int a_l2)), (3, .inl (.int a_l3)), (4, .inl (.int a_l4)), (5, .inl (.int a_l5)), (6, .inl (.int a_l6)), (7, .inl (.int a_l7)), (8, .inl (.ref 130))]) rfl rfl ?_
            refine sf_iconst sf_c1 (fun z150 ez150 => ?_)
            refine sf_ireturn rfl rfl ?_
            exact hR _ _ hI0 hs0 (by omega) (by omega) (by first | (refine Or.inl ⟨by omega, ?_⟩; omega) | (refine Or.inr (Or.inl ⟨by omega, ?_⟩); omega) | (refine Or.inr (Or.inr ⟨by omega, ?_⟩); omega))
          · refine sf_iconst sf_c1 (fun z151 ez151 => ?_)
            refine sf_zreturn (by omega) rfl rfl ?_
            refine sf_zreturn (by omega) rfl rfl ?_
            refine sf_f1_eq (fun h152 => absurd h152 (by omega)) (fun h152 => ?_)
            refine sf_iconst sf_c1 (fun z153 ez153 => ?_)
            refine sf_call1 rfl rfl rfl ?_
            refine sf_sp (L := [(0, .inl (.int z153))]) rfl rfl ?_
            refine sf_iload rfl ?_
            refine sf_f1_eq (fun h154 => absurd h154 (by omega)) (fun h154 => ?_)
            refine sf_vreturn rfl rfl ?_
            refine sf_iload rfl ?_
            refine sf_iconst sf_c0 (fun z155 ez155 => ?_)
            refine sf_iconst sf_c3 (fun z156 ez156 => ?_)
            refine sf_call3 rfl rfl rfl ?_
            refine sf_sp (L := [(0, .inl (.int a_l3)), (1, .inl (.int z155)), (2, .inl (.int z156))]) rfl rfl ?_
            refine sf_iload rfl ?_
            refine sf_iload rfl ?_
            refine sf_f2_gt (fun h157 => ?_) (fun h157 => ?_)
            · refine sf_iconst sf_c0 (fun z158 ez158 => ?_)
              refine sf_zreturn (by omega) rfl rfl ?_
              refine sf_call1 rfl rfl rfl ?_
              refine sf_sp (L := [(0, .inl (.int z158))]) rfl rfl ?_
              refine sf_iload rfl ?_
              refine sf_f1_eq (fun h159 => ?_) (fun h159 => absurd h159 (by omega))
              refine sf_throw rfl rfl ?_
              refine sf_xout rfl rfl ?_
              refine sf_xhh (L' := [(0, .inl (.ref 0)), (1, .inl (.int a_l1)), (2, .inl (.int a_l2)), (3, .inl (.int a_l3)), (4, .inl (.int a_l4)), (5, .inl (.int a_l5)), (6, .inl (.int a_l6)), (7, .inl (.int a_l7)), (8, .inl (.ref 130))]) rfl rfl ?_
              refine sf_iconst sf_c1 (fun z160 ez160 => ?_)
              refine sf_ireturn rfl rfl ?_
              exact hR _ _ hI0 hs0 (by omega) (by omega) (by first | (refine Or.inl ⟨by omega, ?_⟩; omega) | (refine Or.inr (Or.inl ⟨by omega, ?_⟩); omega) | (refine Or.inr (Or.inr ⟨by omega, ?_⟩); omega))
            · refine sf_iload rfl ?_
              refine sf_iload rfl ?_
              refine sf_f2_gt (fun h161 => ?_) (fun h161 => ?_)
              · refine sf_iconst sf_c0 (fun z162 ez162 => ?_)
                refine sf_zreturn (by omega) rfl rfl ?_
                refine sf_call1 rfl rfl rfl ?_
                refine sf_sp (L := [(0, .inl (.int z162))]) rfl rfl ?_
                refine sf_iload rfl ?_
                refine sf_f1_eq (fun h163 => ?_) (fun h163 => absurd h163 (by omega))
                refine sf_throw rfl rfl ?_
                refine sf_xout rfl rfl ?_
                refine sf_xhh (L' := [(0, .inl (.ref 0)), (1, .inl (.int a_l1)), (2, .inl (.int a_l2)), (3, .inl (.int a_l3)), (4, .inl (.int a_l4)), (5, .inl (.int a_l5)), (6, .inl (.int a_l6)), (7, .inl (.int a_l7)), (8, .inl (.ref 130))]) rfl rfl ?_
                refine sf_iconst sf_c1 (fun z164 ez164 => ?_)
                refine sf_ireturn rfl rfl ?_
                exact hR _ _ hI0 hs0 (by omega) (by omega) (by first | (refine Or.inl ⟨by omega, ?_⟩; omega) | (refine Or.inr (Or.inl ⟨by omega, ?_⟩); omega) | (refine Or.inr (Or.inr ⟨by omega, ?_⟩); omega))
              · refine sf_iconst sf_c1 (fun z165 ez165 => ?_)
                refine sf_zreturn (by omega) rfl rfl ?_
                refine sf_call1 rfl rfl rfl ?_
                refine sf_sp (L := [(0, .inl (.int z165))]) rfl rfl ?_
                refine sf_iload rfl ?_
                refine sf_f1_eq (fun h166 => absurd h166 (by omega)) (fun h166 => ?_)
                refine sf_vreturn rfl rfl ?_
                refine sf_iload rfl ?_
                refine sf_iconst sf_c0 (fun z167 ez167 => ?_)
                refine sf_iconst sf_c10000 (fun z168 ez168 => ?_)
                refine sf_call3 rfl rfl rfl ?_
                refine sf_sp (L := [(0, .inl (.int a_l4)), (1, .inl (.int z167)), (2, .inl (.int z168))]) rfl rfl ?_
                refine sf_iload rfl ?_
                refine sf_iload rfl ?_
                refine sf_f2_gt (fun h169 => ?_) (fun h169 => ?_)
                · refine sf_iconst sf_c0 (fun z170 ez170 => ?_)
                  refine sf_zreturn (by omega) rfl rfl ?_
                  refine sf_f1_eq (fun h171 => ?_) (fun h171 => absurd h171 (by omega))
                  refine sf_iconst sf_c0 (fun z172 ez172 => ?_)
                  refine sf_call1 rfl rfl rfl ?_
                  refine sf_sp (L := [(0, .inl (.int z172))]) rfl rfl ?_
                  refine sf_iload rfl ?_
                  refine sf_f1_eq (fun h173 => ?_) (fun h173 => absurd h173 (by omega))
                  refine sf_throw rfl rfl ?_
                  refine sf_xout rfl rfl ?_
                  refine sf_xhh (L' := [(0, .inl (.ref 0)), (1, .inl (.int a_l1)), (2, .inl (.int a_l2)), (3, .inl (.int a_l3)), (4, .inl (.int a_l4)), (5, .inl (.int a_l5)), (6, .inl (.int a_l6)), (7, .inl (.int a_l7)), (8, .inl (.ref 130))]) rfl rfl ?_
                  refine sf_iconst sf_c1 (fun z174 ez174 => ?_)
                  refine sf_ireturn rfl rfl ?_
                  exact hR _ _ hI0 hs0 (by omega) (by omega) (by first | (refine Or.inl ⟨by omega, ?_⟩; omega) | (refine Or.inr (Or.inl ⟨by omega, ?_⟩); omega) | (refine Or.inr (Or.inr ⟨by omega, ?_⟩); omega))
                · refine sf_iload rfl ?_
                  refine sf_iload rfl ?_
                  refine sf_f2_gt (fun h175 => ?_) (fun h175 => ?_)
                  · refine sf_iconst sf_c0 (fun z176 ez176 => ?_)
                    refine sf_zreturn (by omega) rfl rfl ?_
                    refine sf_f1_eq (fun h177 => ?_) (fun h177 => absurd h177 (by omega))
                    refine sf_iconst sf_c0 (fun z178 ez178 => ?_)
                    refine sf_call1 rfl rfl rfl ?_
                    refine sf_sp (L := [(0, .inl (.int z178))]) rfl rfl ?_
                    refine sf_iload rfl ?_
                    refine sf_f1_eq (fun h179 => ?_) (fun h179 => absurd h179 (by omega))
                    refine sf_throw rfl rfl ?_
                    refine sf_xout rfl rfl ?_
                    refine sf_xhh (L' := [(0, .inl (.ref 0)), (1, .inl (.int a_l1)), (2, .inl (.int a_l2)), (3, .inl (.int a_l3)), (4, .inl (.int a_l4)), (5, .inl (.int a_l5)), (6, .inl (.int a_l6)), (7, .inl (.int a_l7)), (8, .inl (.ref 130))]) rfl rfl ?_
                    refine sf_iconst sf_c1 (fun z180 ez180 => ?_)
                    refine sf_ireturn rfl rfl ?_
                    exact hR _ _ hI0 hs0 (by omega) (by omega) (by first | (refine Or.inl ⟨by omega, ?_⟩; omega) | (refine Or.inr (Or.inl ⟨by omega, ?_⟩); omega) | (refine Or.inr (Or.inr ⟨by omega, ?_⟩); omega))
                  · refine sf_iconst sf_c1 (fun z181 ez181 => ?_)
                    refine sf_zreturn (by omega) rfl rfl ?_
                    refine sf_f1_eq (fun h182 => absurd h182 (by omega)) (fun h182 => ?_)
                    refine sf_iload rfl ?_
                    refine sf_iconst sf_c0 (fun z183 ez183 => ?_)
                    refine sf_iconst sf_c10000 (fun z184 ez184 => ?_)
                    refine sf_call3 rfl rfl rfl ?_
                    refine sf_sp (L := [(0, .inl (.int a_l5)), (1, .inl (.int z183)), (2, .inl (.int z184))]) rfl rfl ?_
                    refine sf_iload rfl ?_
                    refine sf_iload rfl ?_
                    refine sf_f2_gt (fun h185 => ?_) (fun h185 => ?_)
                    · refine sf_iconst sf_c0 (fun z186 ez186 => ?_)
                      refine sf_zreturn (by omega) rfl rfl ?_
                      refine sf_f1_eq (fun h187 => ?_) (fun h187 => absurd h187 (by omega))
                      refine sf_iconst sf_c0 (fun z188 ez188 => ?_)
                      refine sf_call1 rfl rfl rfl ?_
                      refine sf_sp (L := [(0, .inl (.int z188))]) rfl rfl ?_
                      refine sf_iload rfl ?_
                      refine sf_f1_eq (fun h189 => ?_) (fun h189 => absurd h189 (by omega))
                      refine sf_throw rfl rfl ?_
                      refine sf_xout rfl rfl ?_
                      refine sf_xhh (L' := [(0, .inl (.ref 0)), (1, .inl (.int a_l1)), (2, .inl (.int a_l2)), (3, .inl (.int a_l3)), (4, .inl (.int a_l4)), (5, .inl (.int a_l5)), (6, .inl (.int a_l6)), (7, .inl (.int a_l7)), (8, .inl (.ref 130))]) rfl rfl ?_
                      refine sf_iconst sf_c1 (fun z190 ez190 => ?_)
                      refine sf_ireturn rfl rfl ?_
                      exact hR _ _ hI0 hs0 (by omega) (by omega) (by first | (refine Or.inl ⟨by omega, ?_⟩; omega) | (refine Or.inr (Or.inl ⟨by omega, ?_⟩); omega) | (refine Or.inr (Or.inr ⟨by omega, ?_⟩); omega))
                    · refine sf_iload rfl ?_
                      refine sf_iload rfl ?_
                      refine sf_f2_gt (fun h191 => ?_) (fun h191 => ?_)
                      · refine sf_iconst sf_c0 (fun z192 ez192 => ?_)
                        refine sf_zreturn (by omega) rfl rfl ?_
                        refine sf_f1_eq (fun h193 => ?_) (fun h193 => absurd h193 (by omega))
                        refine sf_iconst sf_c0 (fun z194 ez194 => ?_)
                        refine sf_call1 rfl rfl rfl ?_
                        refine sf_sp (L := [(0, .inl (.int z194))]) rfl rfl ?_
                        refine sf_iload rfl ?_
                        refine sf_f1_eq (fun h195 => ?_) (fun h195 => absurd h195 (by omega))
                        refine sf_throw rfl rfl ?_
                        refine sf_xout rfl rfl ?_
                        refine sf_xhh (L' := [(0, .inl (.ref 0)), (1, .inl (.int a_l1)), (2, .inl (.int a_l2)), (3, .inl (.int a_l3)), (4, .inl (.int a_l4)), (5, .inl (.int a_l5)), (6, .inl (.int a_l6)), (7, .inl (.int a_l7)), (8, .inl (.ref 130))]) rfl rfl ?_
                        refine sf_iconst sf_c1 (fun z196 ez196 => ?_)
                        refine sf_ireturn rfl rfl ?_
                        exact hR _ _ hI0 hs0 (by omega) (by omega) (by first | (refine Or.inl ⟨by omega, ?_⟩; omega) | (refine Or.inr (Or.inl ⟨by omega, ?_⟩); omega) | (refine Or.inr (Or.inr ⟨by omega, ?_⟩); omega))
                      · refine sf_iconst sf_c1 (fun z197 ez197 => ?_)
                        refine sf_zreturn (by omega) rfl rfl ?_
                        refine sf_f1_eq (fun h198 => absurd h198 (by omega)) (fun h198 => ?_)
                        refine sf_iconst sf_c1 (fun z199 ez199 => ?_)
                        refine sf_call1 rfl rfl rfl ?_
                        refine sf_sp (L := [(0, .inl (.int z199))]) rfl rfl ?_
                        refine sf_iload rfl ?_
                        refine sf_f1_eq (fun h200 => absurd h200 (by omega)) (fun h200 => ?_)
                        refine sf_vreturn rfl rfl ?_
                        refine sf_iload rfl ?_
                        refine sf_call1 rfl rfl rfl ?_
                        refine sf_sp (L := [(0, .inl (.int a_l6))]) rfl rfl ?_
                        refine sf_iload rfl ?_
                        refine sf_iconst sf_c10000 (fun z201 ez201 => ?_)
                        refine sf_call2 rfl rfl rfl ?_
                        refine sf_sp (L := [(0, .inl (.int a_l6)), (1, .inl (.int z201))]) rfl rfl ?_
                        refine sf_iconst sf_c0 (fun z202 ez202 => ?_)
                        refine sf_iload rfl ?_
                        refine sf_f2_gt (fun h203 => ?_) (fun h203 => ?_)
                        · refine sf_iconst sf_c0 (fun z204 ez204 => ?_)
                          refine sf_zreturn (by omega) rfl rfl ?_
                          refine sf_zreturn (by omega) rfl rfl ?_
                          refine sf_f1_eq (fun h205 => ?_) (fun h205 => absurd h205 (by omega))
                          refine sf_iconst sf_c0 (fun z206 ez206 => ?_)
                          refine sf_call1 rfl rfl rfl ?_
                          refine sf_sp (L := [(0, .inl (.int z206))]) rfl rfl ?_
                          refine sf_iload rfl ?_
                          refine sf_f1_eq (fun h207 => ?_) (fun h207 => absurd h207 (by omega))
                          refine sf_throw rfl rfl ?_
                          refine sf_xout rfl rfl ?_
                          refine sf_xhh (L' := [(0, .inl (.ref 0)), (1, .inl (.int a_l1)), (2, .inl (.int a_l2)), (3, .inl (.int a_l3)), (4, .inl (.int a_l4)), (5, .inl (.int a_l5)), (6, .inl (.int a_l6)), (7, .inl (.int a_l7)), (8, .inl (.ref 130))]) rfl rfl ?_
                          refine sf_iconst sf_c1 (fun z208 ez208 => ?_)
                          refine sf_ireturn rfl rfl ?_
                          exact hR _ _ hI0 hs0 (by omega) (by omega) (by first | (refine Or.inl ⟨by omega, ?_⟩; omega) | (refine Or.inr (Or.inl ⟨by omega, ?_⟩); omega) | (refine Or.inr (Or.inr ⟨by omega, ?_⟩); omega))
                        · refine sf_iload rfl ?_
                          refine sf_iload rfl ?_
                          refine sf_f2_ge (fun h209 => ?_) (fun h209 => ?_)
                          · refine sf_iconst sf_c0 (fun z210 ez210 => ?_)
                            refine sf_zreturn (by omega) rfl rfl ?_
                            refine sf_zreturn (by omega) rfl rfl ?_
                            refine sf_f1_eq (fun h211 => ?_) (fun h211 => absurd h211 (by omega))
                            refine sf_iconst sf_c0 (fun z212 ez212 => ?_)
                            refine sf_call1 rfl rfl rfl ?_
                            refine sf_sp (L := [(0, .inl (.int z212))]) rfl rfl ?_
                            refine sf_iload rfl ?_
                            refine sf_f1_eq (fun h213 => ?_) (fun h213 => absurd h213 (by omega))
                            refine sf_throw rfl rfl ?_
                            refine sf_xout rfl rfl ?_
                            refine sf_xhh (L' := [(0, .inl (.ref 0)), (1, .inl (.int a_l1)), (2, .inl (.int a_l2)), (3, .inl (.int a_l3)), (4, .inl (.int a_l4)), (5, .inl (.int a_l5)), (6, .inl (.int a_l6)), (7, .inl (.int a_l7)), (8, .inl (.ref 130))]) rfl rfl ?_
                            refine sf_iconst sf_c1 (fun z214 ez214 => ?_)
                            refine sf_ireturn rfl rfl ?_
                            exact hR _ _ hI0 hs0 (by omega) (by omega) (by first | (refine Or.inl ⟨by omega, ?_⟩; omega) | (refine Or.inr (Or.inl ⟨by omega, ?_⟩); omega) | (refine Or.inr (Or.inr ⟨by omega, ?_⟩); omega))
                          · refine sf_iconst sf_c1 (fun z215 ez215 => ?_)
                            refine sf_zreturn (by omega) rfl rfl ?_
                            refine sf_zreturn (by omega) rfl rfl ?_
                            refine sf_f1_eq (fun h216 => absurd h216 (by omega)) (fun h216 => ?_)
                            refine sf_iload rfl ?_
                            refine sf_call1 rfl rfl rfl ?_
                            refine sf_sp (L := [(0, .inl (.int a_l7))]) rfl rfl ?_
                            refine sf_iload rfl ?_
                            refine sf_iconst sf_c10000 (fun z217 ez217 => ?_)
                            refine sf_call2 rfl rfl rfl ?_
                            refine sf_sp (L := [(0, .inl (.int a_l7)), (1, .inl (.int z217))]) rfl rfl ?_
                            refine sf_iconst sf_c0 (fun z218 ez218 => ?_)
                            refine sf_iload rfl ?_
                            refine sf_f2_gt (fun h219 => ?_) (fun h219 => ?_)
                            · refine sf_iconst sf_c0 (fun z220 ez220 => ?_)
                              refine sf_zreturn (by omega) rfl rfl ?_
                              refine sf_zreturn (by omega) rfl rfl ?_
                              refine sf_f1_eq (fun h221 => ?_) (fun h221 => absurd h221 (by omega))
                              refine sf_iconst sf_c0 (fun z222 ez222 => ?_)
                              refine sf_call1 rfl rfl rfl ?_
                              refine sf_sp (L := [(0, .inl (.int z222))]) rfl rfl ?_
                              refine sf_iload rfl ?_
                              refine sf_f1_eq (fun h223 => ?_) (fun h223 => absurd h223 (by omega))
                              refine sf_throw rfl rfl ?_
                              refine sf_xout rfl rfl ?_
                              refine sf_xhh (L' := [(0, .inl (.ref 0)), (1, .inl (.int a_l1)), (2, .inl (.int a_l2)), (3, .inl (.int a_l3)), (4, .inl (.int a_l4)), (5, .inl (.int a_l5)), (6, .inl (.int a_l6)), (7, .inl (.int a_l7)), (8, .inl (.ref 130))]) rfl rfl ?_
                              refine sf_iconst sf_c1 (fun z224 ez224 => ?_)
                              refine sf_ireturn rfl rfl ?_
                              exact hR _ _ hI0 hs0 (by omega) (by omega) (by first | (refine Or.inl ⟨by omega, ?_⟩; omega) | (refine Or.inr (Or.inl ⟨by omega, ?_⟩); omega) | (refine Or.inr (Or.inr ⟨by omega, ?_⟩); omega))
                            · refine sf_iload rfl ?_
                              refine sf_iload rfl ?_
                              refine sf_f2_ge (fun h225 => ?_) (fun h225 => ?_)
                              · refine sf_iconst sf_c0 (fun z226 ez226 => ?_)
                                refine sf_zreturn (by omega) rfl rfl ?_
                                refine sf_zreturn (by omega) rfl rfl ?_
                                refine sf_f1_eq (fun h227 => ?_) (fun h227 => absurd h227 (by omega))
                                refine sf_iconst sf_c0 (fun z228 ez228 => ?_)
                                refine sf_call1 rfl rfl rfl ?_
                                refine sf_sp (L := [(0, .inl (.int z228))]) rfl rfl ?_
                                refine sf_iload rfl ?_
                                refine sf_f1_eq (fun h229 => ?_) (fun h229 => absurd h229 (by omega))
                                refine sf_throw rfl rfl ?_
                                refine sf_xout rfl rfl ?_
                                refine sf_xhh (L' := [(0, .inl (.ref 0)), (1, .inl (.int a_l1)), (2, .inl (.int a_l2)), (3, .inl (.int a_l3)), (4, .inl (.int a_l4)), (5, .inl (.int a_l5)), (6, .inl (.int a_l6)), (7, .inl (.int a_l7)), (8, .inl (.ref 130))]) rfl rfl ?_
                                refine sf_iconst sf_c1 (fun z230 ez230 => ?_)
                                refine sf_ireturn rfl rfl ?_
                                exact hR _ _ hI0 hs0 (by omega) (by omega) (by first | (refine Or.inl ⟨by omega, ?_⟩; omega) | (refine Or.inr (Or.inl ⟨by omega, ?_⟩); omega) | (refine Or.inr (Or.inr ⟨by omega, ?_⟩); omega))
                              · refine sf_iconst sf_c1 (fun z231 ez231 => ?_)
                                refine sf_zreturn (by omega) rfl rfl ?_
                                refine sf_zreturn (by omega) rfl rfl ?_
                                refine sf_f1_eq (fun h232 => absurd h232 (by omega)) (fun h232 => ?_)
                                refine sf_iload rfl ?_
                                refine sf_iload rfl ?_
                                refine sf_f2_gt (fun h233 => ?_) (fun h233 => ?_)
                                · refine sf_iconst sf_c0 (fun z234 ez234 => ?_)
                                  refine sf_call1 rfl rfl rfl ?_
                                  refine sf_sp (L := [(0, .inl (.int z234))]) rfl rfl ?_
                                  refine sf_iload rfl ?_
                                  refine sf_f1_eq (fun h235 => ?_) (fun h235 => absurd h235 (by omega))
                                  refine sf_throw rfl rfl ?_
                                  refine sf_xout rfl rfl ?_
                                  refine sf_xhh (L' := [(0, .inl (.ref 0)), (1, .inl (.int a_l1)), (2, .inl (.int a_l2)), (3, .inl (.int a_l3)), (4, .inl (.int a_l4)), (5, .inl (.int a_l5)), (6, .inl (.int a_l6)), (7, .inl (.int a_l7)), (8, .inl (.ref 130))]) rfl rfl ?_
                                  refine sf_iconst sf_c1 (fun z236 ez236 => ?_)
                                  refine sf_ireturn rfl rfl ?_
                                  exact hR _ _ hI0 hs0 (by omega) (by omega) (by first | (refine Or.inl ⟨by omega, ?_⟩; omega) | (refine Or.inr (Or.inl ⟨by omega, ?_⟩); omega) | (refine Or.inr (Or.inr ⟨by omega, ?_⟩); omega))
                                · refine sf_iconst sf_c1 (fun z237 ez237 => ?_)
                                  refine sf_call1 rfl rfl rfl ?_
                                  refine sf_sp (L := [(0, .inl (.int z237))]) rfl rfl ?_
                                  refine sf_iload rfl ?_
                                  refine sf_f1_eq (fun h238 => absurd h238 (by omega)) (fun h238 => ?_)
                                  refine sf_vreturn rfl rfl ?_
                                  refine sf_aload rfl ?_
                                  refine sf_getr hI0 rfl rfl ?_
                                  refine sf_geti hI0 rfl rfl (fun v239 lv239 uv239 ev239 => ?_)
                                  refine sf_iconst sf_c40 (fun z240 ez240 => ?_)
                                  refine sf_f2_ge (fun h241 => ?_) (fun h241 => ?_)
                                  · refine sf_iconst sf_c0 (fun z242 ez242 => ?_)
                                    refine sf_call1 rfl rfl rfl ?_
                                    refine sf_sp (L := [(0, .inl (.int z242))]) rfl rfl ?_
                                    refine sf_iload rfl ?_
                                    refine sf_f1_eq (fun h243 => ?_) (fun h243 => absurd h243 (by omega))
                                    refine sf_throw rfl rfl ?_
                                    refine sf_xout rfl rfl ?_
                                    refine sf_xhm rfl ?_
                                    refine sf_xhh (L' := [(0, .inl (.ref 0)), (1, .inl (.int a_l1)), (2, .inl (.int a_l2)), (3, .inl (.int a_l3)), (4, .inl (.int a_l4)), (5, .inl (.int a_l5)), (6, .inl (.int a_l6)), (7, .inl (.int a_l7)), (8, .inl (.ref 130))]) rfl rfl ?_
                                    refine sf_iconst sf_c2 (fun z244 ez244 => ?_)
                                    refine sf_ireturn rfl rfl ?_
                                    exact hR _ _ hI0 hs0 (by omega) (by omega) (by first | (refine Or.inl ⟨by omega, ?_⟩; omega) | (refine Or.inr (Or.inl ⟨by omega, ?_⟩); omega) | (refine Or.inr (Or.inr ⟨by omega, ?_⟩); omega))
                                  · refine sf_iconst sf_c1 (fun z245 ez245 => ?_)
                                    refine sf_call1 rfl rfl rfl ?_
                                    refine sf_sp (L := [(0, .inl (.int z245))]) rfl rfl ?_
                                    refine sf_iload rfl ?_
                                    refine sf_f1_eq (fun h246 => absurd h246 (by omega)) (fun h246 => ?_)
                                    refine sf_vreturn rfl rfl ?_
                                    refine sf_aload rfl ?_
                                    refine sf_getr hI0 rfl rfl ?_
                                    refine sf_iload rfl ?_
                                    refine sf_iload rfl ?_
                                    refine sf_iload rfl ?_
                                    refine sf_iload rfl ?_
                                    refine sf_iload rfl ?_
                                    refine sf_iload rfl ?_
                                    refine sf_iload rfl ?_
                                    refine sf_call8 rfl rfl rfl ?_
                                    refine sf_rv hI0 rfl ?_
                                    refine sf_sp (L := [(0, .inl (.ref 13)), (1, .inl (.int a_l1)), (2, .inl (.int a_l2)), (3, .inl (.int a_l3)), (4, .inl (.int a_l4)), (5, .inl (.int a_l5)), (6, .inl (.int a_l6)), (7, .inl (.int a_l7))]) rfl rfl ?_
                                    refine sf_aload rfl ?_
                                    refine sf_geti hI0 rfl rfl (fun v247 lv247 uv247 ev247 => ?_)
                                    refine sf_istore (L' := [(0, .inl (.ref 13)), (1, .inl (.int a_l1)), (2, .inl (.int a_l2)), (3, .inl (.int a_l3)), (4, .inl (.int a_l4)), (5, .inl (.int a_l5)), (6, .inl (.int a_l6)), (7, .inl (.int a_l7))]) rfl ?_
                                    refine sf_aload rfl ?_
                                    refine sf_getr hI0 rfl rfl ?_
                                    refine sf_iload rfl ?_
                                    refine sf_iload rfl ?_
                                    refine sf_iast hI0 hs0 rfl (by omega) (sf_bd _) rfl rfl (fun w248 Iw248 sw248 kw248 uw248 => ?_)
                                    have c249 := sf_mf kw248 (p := 13) (j := 1) rfl
                                    clear kw248 uw248
                                    refine sf_aload rfl ?_
                                    refine sf_getr Iw248 rfl rfl ?_
                                    refine sf_iload rfl ?_
                                    refine sf_iload rfl ?_
                                    refine sf_iast Iw248 sw248 rfl (by omega) (sf_bd _) rfl rfl (fun w250 Iw250 sw250 kw250 uw250 => ?_)
                                    have c251 := sf_mf kw250 (p := 13) (j := 1) rfl
                                    clear kw250 uw250
                                    refine sf_aload rfl ?_
                                    refine sf_getr Iw250 rfl rfl ?_
                                    refine sf_iload rfl ?_
                                    refine sf_iload rfl ?_
                                    refine sf_iast Iw250 sw250 rfl (by omega) (sf_bd _) rfl rfl (fun w252 Iw252 sw252 kw252 uw252 => ?_)
                                    have c253 := sf_mf kw252 (p := 13) (j := 1) rfl
                                    clear kw252 uw252
                                    refine sf_aload rfl ?_
                                    refine sf_getr Iw252 rfl rfl ?_
                                    refine sf_iload rfl ?_
                                    refine sf_iload rfl ?_
                                    refine sf_iast Iw252 sw252 rfl (by omega) (sf_bd _) rfl rfl (fun w254 Iw254 sw254 kw254 uw254 => ?_)
                                    have c255 := sf_mf kw254 (p := 13) (j := 1) rfl
                                    clear kw254 uw254
                                    refine sf_aload rfl ?_
                                    refine sf_getr Iw254 rfl rfl ?_
                                    refine sf_iload rfl ?_
                                    refine sf_iload rfl ?_
                                    refine sf_iast Iw254 sw254 rfl (by omega) (sf_bd _) rfl rfl (fun w256 Iw256 sw256 kw256 uw256 => ?_)
                                    have c257 := sf_mf kw256 (p := 13) (j := 1) rfl
                                    clear kw256 uw256
                                    refine sf_aload rfl ?_
                                    refine sf_getr Iw256 rfl rfl ?_
                                    refine sf_iload rfl ?_
                                    refine sf_iload rfl ?_
                                    refine sf_iast Iw256 sw256 rfl (by omega) (sf_bd _) rfl rfl (fun w258 Iw258 sw258 kw258 uw258 => ?_)
                                    have c259 := sf_mf kw258 (p := 13) (j := 1) rfl
                                    clear kw258 uw258
                                    refine sf_aload rfl ?_
                                    refine sf_getr Iw258 rfl rfl ?_
                                    refine sf_iload rfl ?_
                                    refine sf_iload rfl ?_
                                    refine sf_iast Iw258 sw258 rfl (by omega) (sf_bd _) rfl rfl (fun w260 Iw260 sw260 kw260 uw260 => ?_)
                                    have c261 := sf_mf kw260 (p := 13) (j := 1) rfl
                                    clear kw260 uw260
                                    refine sf_aload rfl ?_
                                    refine sf_dup rfl ?_
                                    refine sf_geti Iw260 rfl rfl (fun v262 lv262 uv262 ev262 => ?_)
                                    rw [c261, c259, c257, c255, c253, c251, c249] at ev262
                                    refine sf_iconst sf_c1 (fun z263 ez263 => ?_)
                                    refine sf_iadd (by omega) (fun v264 ev264 => ?_)
                                    refine sf_puti Iw260 sw260 rfl rfl (by omega) rfl rfl rfl (fun w265 Iw265 sw265 kw265 uw265 => ?_)
                                    clear kw265
                                    refine sf_iload rfl ?_
                                    refine sf_ireturn rfl rfl ?_
                                    refine sf_ireturn rfl rfl ?_
                                    refine sf_i2l (fun v266 ev266 => ?_)
                                    refine sf_last Iw265 sw265 rfl (by omega) rfl rfl (fun w267 Iw267 sw267 kw267 uw267 => ?_)
                                    have c268 := sf_mf kw267 (p := 13) (j := 1) rfl
                                    clear kw267
                                    have go : (sf_l w267 130 0).toInt = v266.toInt := by rw [uw267, show z1.toInt.toNat = 0 by omega]; unfold vp_updL; rw [if_pos rfl]
                                    refine sf_iconst sf_c0 (fun z269 ez269 => ?_)
                                    refine sf_ireturn rfl rfl ?_
                                    exact hR _ _ Iw267 sw267 (by omega) (by omega) (by rw [c268, uw265]; first | (refine Or.inl ⟨by omega, ?_⟩; omega) | (refine Or.inr (Or.inl ⟨by omega, ?_⟩); omega) | (refine Or.inr (Or.inr ⟨by omega, ?_⟩); omega))
def sm_W_rateFor_0_130 : List Nat := [130]
set_option maxRecDepth 100000 in
set_option maxHeartbeats 4000000 in
theorem sc_W_rateFor_0_130 {w0 : wq_W} (hI0 : sf_I w0) {rt : Option wq_V → wq_W → Prop} {xt : Nat → wq_W → Prop} {a_l1 : Int32} {a_l2 : Int32} {a_l3 : Int32}  (hR : ∀ (r : Int32) (w : wq_W), sf_I w → sf_m sm_W_rateFor_0_130 w0 w → 0 ≤ r.toInt → r.toInt ≤ 1 → rt (some (.inl (.int r))) w) : ks_W_rateFor [.inl (.ref 0), .inl (.int a_l1), .inl (.int a_l2), .inl (.int a_l3), .inl (.ref 130)] w0 rt xt := by
  have hs0 : sf_m sm_W_rateFor_0_130 w0 w0 := sf_m0
  refine sf_sp (L := [(0, .inl (.ref 0)), (1, .inl (.int a_l1)), (2, .inl (.int a_l2)), (3, .inl (.int a_l3)), (4, .inl (.ref 130))]) rfl rfl ?_
  refine sf_aload rfl ?_
  refine sf_iconst sf_c0 (fun z1 ez1 => ?_)
  refine sf_aload rfl ?_
  refine sf_iload rfl ?_
  refine sf_iload rfl ?_
  refine sf_iload rfl ?_
  refine sf_call4 rfl rfl rfl ?_
  refine sf_rv hI0 rfl ?_
  refine sf_sp (L := [(0, .inl (.ref 0)), (1, .inl (.int a_l1)), (2, .inl (.int a_l2)), (3, .inl (.int a_l3))]) rfl rfl ?_
  refine sf_aload rfl ?_
  refine sf_iload rfl ?_
  refine sf_call2 rfl rfl rfl ?_
  refine sf_rv hI0 rfl ?_
  refine sf_sp (L := [(0, .inl (.ref 0)), (1, .inl (.int a_l1))]) rfl rfl ?_
  refine sf_iload rfl ?_
  refine sf_aload rfl ?_
  refine sf_getr hI0 rfl rfl ?_
  refine sf_geti hI0 rfl rfl (fun v2 lv2 uv2 ev2 => ?_)
  refine sf_call2 rfl rfl rfl ?_
  refine sf_sp (L := [(0, .inl (.int a_l1)), (1, .inl (.int v2))]) rfl rfl ?_
  refine sf_iconst sf_c0 (fun z3 ez3 => ?_)
  refine sf_iload rfl ?_
  refine sf_f2_gt (fun h4 => ?_) (fun h4 => ?_)
  · refine sf_iconst sf_c0 (fun z5 ez5 => ?_)
    refine sf_zreturn (by omega) rfl rfl ?_
    refine sf_zreturn (by omega) rfl rfl ?_
    refine sf_f1_eq (fun h6 => ?_) (fun h6 => absurd h6 (by omega))
    refine sf_iconst sf_c0 (fun z7 ez7 => ?_)
    refine sf_call1 rfl rfl rfl ?_
    refine sf_sp (L := [(0, .inl (.int z7))]) rfl rfl ?_
    refine sf_iload rfl ?_
    refine sf_f1_eq (fun h8 => ?_) (fun h8 => absurd h8 (by omega))
    refine sf_throw rfl rfl ?_
    refine sf_xout rfl rfl ?_
    refine sf_xhh (L' := [(0, .inl (.ref 0)), (1, .inl (.int a_l1)), (2, .inl (.int a_l2)), (3, .inl (.int a_l3)), (4, .inl (.ref 130))]) rfl rfl ?_
    refine sf_iconst sf_c1 (fun z9 ez9 => ?_)
    refine sf_ireturn rfl rfl ?_
    exact hR _ _ hI0 hs0 (by omega) (by omega) 
  · refine sf_iload rfl ?_
    refine sf_iload rfl ?_
    refine sf_f2_ge (fun h10 => ?_) (fun h10 => ?_)
    · refine sf_iconst sf_c0 (fun z11 ez11 => ?_)
      refine sf_zreturn (by omega) rfl rfl ?_
      refine sf_zreturn (by omega) rfl rfl ?_
      refine sf_f1_eq (fun h12 => ?_) (fun h12 => absurd h12 (by omega))
      refine sf_iconst sf_c0 (fun z13 ez13 => ?_)
      refine sf_call1 rfl rfl rfl ?_
      refine sf_sp (L := [(0, .inl (.int z13))]) rfl rfl ?_
      refine sf_iload rfl ?_
      refine sf_f1_eq (fun h14 => ?_) (fun h14 => absurd h14 (by omega))
      refine sf_throw rfl rfl ?_
      refine sf_xout rfl rfl ?_
      refine sf_xhh (L' := [(0, .inl (.ref 0)), (1, .inl (.int a_l1)), (2, .inl (.int a_l2)), (3, .inl (.int a_l3)), (4, .inl (.ref 130))]) rfl rfl ?_
      refine sf_iconst sf_c1 (fun z15 ez15 => ?_)
      refine sf_ireturn rfl rfl ?_
      exact hR _ _ hI0 hs0 (by omega) (by omega) 
    · refine sf_iconst sf_c1 (fun z16 ez16 => ?_)
      refine sf_zreturn (by omega) rfl rfl ?_
      refine sf_zreturn (by omega) rfl rfl ?_
      refine sf_f1_eq (fun h17 => absurd h17 (by omega)) (fun h17 => ?_)
      refine sf_iload rfl ?_
      refine sf_call1 rfl rfl rfl ?_
      refine sf_sp (L := [(0, .inl (.int a_l2))]) rfl rfl ?_
      refine sf_iload rfl ?_
      refine sf_iconst sf_c8 (fun z18 ez18 => ?_)
      refine sf_call2 rfl rfl rfl ?_
      refine sf_sp (L := [(0, .inl (.int a_l2)), (1, .inl (.int z18))]) rfl rfl ?_
      refine sf_iconst sf_c0 (fun z19 ez19 => ?_)
      refine sf_iload rfl ?_
      refine sf_f2_gt (fun h20 => ?_) (fun h20 => ?_)
      · refine sf_iconst sf_c0 (fun z21 ez21 => ?_)
        refine sf_zreturn (by omega) rfl rfl ?_
        refine sf_zreturn (by omega) rfl rfl ?_
        refine sf_f1_eq (fun h22 => ?_) (fun h22 => absurd h22 (by omega))
        refine sf_iconst sf_c0 (fun z23 ez23 => ?_)
        refine sf_call1 rfl rfl rfl ?_
        refine sf_sp (L := [(0, .inl (.int z23))]) rfl rfl ?_
        refine sf_iload rfl ?_
        refine sf_f1_eq (fun h24 => ?_) (fun h24 => absurd h24 (by omega))
        refine sf_throw rfl rfl ?_
        refine sf_xout rfl rfl ?_
        refine sf_xhh (L' := [(0, .inl (.ref 0)), (1, .inl (.int a_l1)), (2, .inl (.int a_l2)), (3, .inl (.int a_l3)), (4, .inl (.ref 130))]) rfl rfl ?_
        refine sf_iconst sf_c1 (fun z25 ez25 => ?_)
        refine sf_ireturn rfl rfl ?_
        exact hR _ _ hI0 hs0 (by omega) (by omega) 
      · refine sf_iload rfl ?_
        refine sf_iload rfl ?_
        refine sf_f2_ge (fun h26 => ?_) (fun h26 => ?_)
        · refine sf_iconst sf_c0 (fun z27 ez27 => ?_)
          refine sf_zreturn (by omega) rfl rfl ?_
          refine sf_zreturn (by omega) rfl rfl ?_
          refine sf_f1_eq (fun h28 => ?_) (fun h28 => absurd h28 (by omega))
          refine sf_iconst sf_c0 (fun z29 ez29 => ?_)
          refine sf_call1 rfl rfl rfl ?_
          refine sf_sp (L := [(0, .inl (.int z29))]) rfl rfl ?_
          refine sf_iload rfl ?_
          refine sf_f1_eq (fun h30 => ?_) (fun h30 => absurd h30 (by omega))
          refine sf_throw rfl rfl ?_
          refine sf_xout rfl rfl ?_
          refine sf_xhh (L' := [(0, .inl (.ref 0)), (1, .inl (.int a_l1)), (2, .inl (.int a_l2)), (3, .inl (.int a_l3)), (4, .inl (.ref 130))]) rfl rfl ?_
          refine sf_iconst sf_c1 (fun z31 ez31 => ?_)
          refine sf_ireturn rfl rfl ?_
          exact hR _ _ hI0 hs0 (by omega) (by omega) 
        · refine sf_iconst sf_c1 (fun z32 ez32 => ?_)
          refine sf_zreturn (by omega) rfl rfl ?_
          refine sf_zreturn (by omega) rfl rfl ?_
          refine sf_f1_eq (fun h33 => absurd h33 (by omega)) (fun h33 => ?_)
          refine sf_iload rfl ?_
          refine sf_call1 rfl rfl rfl ?_
          refine sf_sp (L := [(0, .inl (.int a_l3))]) rfl rfl ?_
          refine sf_iload rfl ?_
          refine sf_iconst sf_c10000 (fun z34 ez34 => ?_)
          refine sf_call2 rfl rfl rfl ?_
          refine sf_sp (L := [(0, .inl (.int a_l3)), (1, .inl (.int z34))]) rfl rfl ?_
          refine sf_iconst sf_c0 (fun z35 ez35 => ?_)
          refine sf_iload rfl ?_
          refine sf_f2_gt (fun h36 => ?_) (fun h36 => ?_)
          · refine sf_iconst sf_c0 (fun z37 ez37 => ?_)
            refine sf_zreturn (by omega) rfl rfl ?_
            refine sf_zreturn (by omega) rfl rfl ?_
            refine sf_f1_eq (fun h38 => ?_) (fun h38 => absurd h38 (by omega))
            refine sf_iconst sf_c0 (fun z39 ez39 => ?_)
            refine sf_call1 rfl rfl rfl ?_
            refine sf_sp (L := [(0, .inl (.int z39))]) rfl rfl ?_
            refine sf_iload rfl ?_
            refine sf_f1_eq (fun h40 => ?_) (fun h40 => absurd h40 (by omega))
            refine sf_throw rfl rfl ?_
            refine sf_xout rfl rfl ?_
            refine sf_xhh (L' := [(0, .inl (.ref 0)), (1, .inl (.int a_l1)), (2, .inl (.int a_l2)), (3, .inl (.int a_l3)), (4, .inl (.ref 130))]) rfl rfl ?_
            refine sf_iconst sf_c1 (fun z41 ez41 => ?_)
            refine sf_ireturn rfl rfl ?_
            exact hR _ _ hI0 hs0 (by omega) (by omega) 
          · refine sf_iload rfl ?_
            refine sf_iload rfl ?_
            refine sf_f2_ge (fun h42 => ?_) (fun h42 => ?_)
            · refine sf_iconst sf_c0 (fun z43 ez43 => ?_)
              refine sf_zreturn (by omega) rfl rfl ?_
              refine sf_zreturn (by omega) rfl rfl ?_
              refine sf_f1_eq (fun h44 => ?_) (fun h44 => absurd h44 (by omega))
              refine sf_iconst sf_c0 (fun z45 ez45 => ?_)
              refine sf_call1 rfl rfl rfl ?_
              refine sf_sp (L := [(0, .inl (.int z45))]) rfl rfl ?_
              refine sf_iload rfl ?_
              refine sf_f1_eq (fun h46 => ?_) (fun h46 => absurd h46 (by omega))
              refine sf_throw rfl rfl ?_
              refine sf_xout rfl rfl ?_
              refine sf_xhh (L' := [(0, .inl (.ref 0)), (1, .inl (.int a_l1)), (2, .inl (.int a_l2)), (3, .inl (.int a_l3)), (4, .inl (.ref 130))]) rfl rfl ?_
              refine sf_iconst sf_c1 (fun z47 ez47 => ?_)
              refine sf_ireturn rfl rfl ?_
              exact hR _ _ hI0 hs0 (by omega) (by omega) 
            · refine sf_iconst sf_c1 (fun z48 ez48 => ?_)
              refine sf_zreturn (by omega) rfl rfl ?_
              refine sf_zreturn (by omega) rfl rfl ?_
              refine sf_f1_eq (fun h49 => absurd h49 (by omega)) (fun h49 => ?_)
              refine sf_iconst sf_c1 (fun z50 ez50 => ?_)
              refine sf_call1 rfl rfl rfl ?_
              refine sf_sp (L := [(0, .inl (.int z50))]) rfl rfl ?_
              refine sf_iload rfl ?_
              refine sf_f1_eq (fun h51 => absurd h51 (by omega)) (fun h51 => ?_)
              refine sf_vreturn rfl rfl ?_
              refine sf_aload rfl ?_
              refine sf_getr hI0 rfl rfl ?_
              refine sf_iload rfl ?_
              refine sf_iload rfl ?_
              refine sf_iload rfl ?_
              refine sf_call4 rfl rfl rfl ?_
              refine sf_rv hI0 rfl ?_
              refine sc_R_find hI0 (by omega) (by omega) (fun v52 lv52 uv52 => ?_)
              refine sf_ireturn rfl rfl ?_
              refine sf_i2l (fun v54 ev54 => ?_)
              refine sf_last hI0 hs0 rfl (by omega) rfl rfl (fun w55 Iw55 sw55 kw55 uw55 => ?_)
              clear kw55 uw55
              refine sf_iconst sf_c0 (fun z56 ez56 => ?_)
              refine sf_ireturn rfl rfl ?_
              exact hR _ _ Iw55 sw55 (by omega) (by omega) 
