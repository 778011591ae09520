def sm_W_heading_0_130 : List Nat := [1, 2, 3, 4, 130, 1100]
set_option maxRecDepth 100000 in
set_option maxHeartbeats 4000000 in
theorem sc_W_heading_0_130 {w0 : wq_W} (hI0 : sf_I w0) {rt : Option wq_V → wq_W → Prop} {xt : Nat → wq_W → Prop} {a_l1 : Int32}  (hR : ∀ (r : Int32) (w : wq_W), sf_I w → sf_m sm_W_heading_0_130 w0 w → 0 ≤ r.toInt → r.toInt ≤ 2 → (((r.toInt = 0 ∧ (a_l1.toInt = -1 ∨ (0 ≤ a_l1.toInt ∧ a_l1.toInt < (sf_f w0 1 0).toInt)) ∧ ((sf_f w0 1 0).toInt < 24 ∧ (a_l1.toInt = -1 ∨ (sf_a w0 3 a_l1.toInt.toNat).toInt < 5)) ∧ (sf_f w 1 0).toInt = (sf_f w0 1 0).toInt + 1 ∧ (sf_l w 130 0).toInt = (sf_f w0 1 0).toInt) ∨ (r.toInt = 1 ∧ ¬ (a_l1.toInt = -1 ∨ (0 ≤ a_l1.toInt ∧ a_l1.toInt < (sf_f w0 1 0).toInt)) ∧ (sf_f w 1 0).toInt = (sf_f w0 1 0).toInt) ∨ (r.toInt = 2 ∧ (a_l1.toInt = -1 ∨ (0 ≤ a_l1.toInt ∧ a_l1.toInt < (sf_f w0 1 0).toInt)) ∧ ¬ ((sf_f w0 1 0).toInt < 24 ∧ (a_l1.toInt = -1 ∨ (sf_a w0 3 a_l1.toInt.toNat).toInt < 5)) ∧ (sf_f w 1 0).toInt = (sf_f w0 1 0).toInt))) → (sf_F2 (sf_a w0 3) (sf_a w 3) (sf_f w0 1 0).toInt r.toInt a_l1) → (sf_U (sf_a w0 2) (sf_a w 2) (sf_f w0 1 0).toInt r.toInt a_l1) → rt (some (.inl (.int r))) w) : ks_W_heading [.inl (.ref 0), .inl (.int a_l1), .inl (.ref 130)] w0 rt xt := by
  have hs0 : sf_m sm_W_heading_0_130 w0 w0 := sf_m0
  refine sf_sp (L := [(0, .inl (.ref 0)), (1, .inl (.int a_l1)), (2, .inl (.ref 130))]) rfl rfl ?_
  refine sf_aload rfl ?_
  refine sf_iconst sf_c0 (fun z1 ez1 => ?_)
  refine sf_aload rfl ?_
  refine sf_iload rfl ?_
  refine sf_call2 rfl rfl rfl ?_
  refine sf_rv hI0 rfl ?_
  refine sf_sp (L := [(0, .inl (.ref 0)), (1, .inl (.int a_l1))]) rfl rfl ?_
  refine sf_iload rfl ?_
  refine sf_iconst sf_cm1 (fun z2 ez2 => ?_)
  refine sf_f2_eq (fun h3 => ?_) (fun h3 => ?_)
  · refine sf_iconst sf_c1 (fun z4 ez4 => ?_)
    refine sf_call1 rfl rfl rfl ?_
    refine sf_sp (L := [(0, .inl (.int z4))]) rfl rfl ?_
    refine sf_iload rfl ?_
    refine sf_f1_eq (fun h5 => absurd h5 (by omega)) (fun h5 => ?_)
    refine sf_vreturn rfl rfl ?_
    refine sf_aload rfl ?_
    refine sf_getr hI0 rfl rfl ?_
    refine sf_geti hI0 rfl rfl (fun v6 lv6 uv6 ev6 => ?_)
    refine sf_iconst sf_c24 (fun z7 ez7 => ?_)
    refine sf_f2_ge (fun h8 => ?_) (fun h8 => ?_)
    · refine sf_iconst sf_c0 (fun z9 ez9 => ?_)
      refine sf_call1 rfl rfl rfl ?_
      refine sf_sp (L := [(0, .inl (.int z9))]) rfl rfl ?_
      refine sf_iload rfl ?_
      refine sf_f1_eq (fun h10 => ?_) (fun h10 => absurd h10 (by omega))
      refine sf_throw rfl rfl ?_
      refine sf_xout rfl rfl ?_
      refine sf_xhm rfl ?_
      refine sf_xhh (L' := [(0, .inl (.ref 0)), (1, .inl (.int a_l1)), (2, .inl (.ref 130))]) rfl rfl ?_
      refine sf_iconst sf_c2 (fun z11 ez11 => ?_)
      refine sf_ireturn rfl rfl ?_
      exact hR _ _ hI0 hs0 (by omega) (by omega) (by first | (refine Or.inl ⟨by omega, ?_⟩; omega) | (refine Or.inr (Or.inl ⟨by omega, ?_⟩); omega) | (refine Or.inr (Or.inr ⟨by omega, ?_⟩); omega)) (by first | exact Or.inl ⟨by omega, rfl⟩ | (obtain ⟨dv, gy⟩ := gx; exact Or.inr ⟨dv, by omega, gy⟩)) (by first | exact Or.inl ⟨by omega, rfl⟩ | exact Or.inr ⟨by omega, u2⟩)
    · refine sf_iconst sf_c1 (fun z12 ez12 => ?_)
      refine sf_call1 rfl rfl rfl ?_
      refine sf_sp (L := [(0, .inl (.int z12))]) rfl rfl ?_
      refine sf_iload rfl ?_
      refine sf_f1_eq (fun h13 => absurd h13 (by omega)) (fun h13 => ?_)
      refine sf_vreturn rfl rfl ?_
      refine sf_aload rfl ?_
      refine sf_getr hI0 rfl rfl ?_
      refine sf_iload rfl ?_
      refine sf_call2 rfl rfl rfl ?_
      refine sf_rv hI0 rfl ?_
      refine sf_sp (L := [(0, .inl (.ref 1)), (1, .inl (.int a_l1))]) rfl rfl ?_
      refine sf_iload rfl ?_
      refine sf_iconst sf_cm1 (fun z14 ez14 => ?_)
      refine sf_f2_eq (fun h15 => ?_) (fun h15 => absurd h15 (by omega))
      refine sf_iconst sf_c0 (fun z16 ez16 => ?_)
      refine sf_ireturn rfl rfl ?_
      refine sf_iconst sf_c5 (fun z17 ez17 => ?_)
      refine sf_f2_gt (fun h18 => absurd h18 (by omega)) (fun h18 => ?_)
      refine sf_iconst sf_c1 (fun z19 ez19 => ?_)
      refine sf_call1 rfl rfl rfl ?_
      refine sf_sp (L := [(0, .inl (.int z19))]) rfl rfl ?_
      refine sf_iload rfl ?_
      refine sf_f1_eq (fun h20 => absurd h20 (by omega)) (fun h20 => ?_)
      refine sf_vreturn rfl rfl ?_
      refine sf_aload rfl ?_
      refine sf_getr hI0 rfl rfl ?_
      refine sf_iload rfl ?_
      refine sf_call2 rfl rfl rfl ?_
      refine sf_rv hI0 rfl ?_
      refine sf_sp (L := [(0, .inl (.ref 1)), (1, .inl (.int a_l1))]) rfl rfl ?_
      refine sf_aload rfl ?_
      refine sf_geti hI0 rfl rfl (fun v21 lv21 uv21 ev21 => ?_)
      refine sf_istore (L' := [(0, .inl (.ref 1)), (1, .inl (.int a_l1))]) rfl ?_
      refine sf_aload rfl ?_
      refine sf_getr hI0 rfl rfl ?_
      refine sf_iload rfl ?_
      refine sf_iload rfl ?_
      refine sf_iast hI0 hs0 rfl (by omega) (by omega) rfl rfl (fun w22 Iw22 sw22 kw22 uw22 => ?_)
      have c23 := sf_mf kw22 (p := 1) (j := 0) rfl
      have c24 := sf_ma kw22 (p := 3) rfl
      clear kw22
      have u2 := uw22
      rw [show v21.toInt = (sf_f w0 1 0).toInt by omega] at u2
      skip
      refine sf_aload rfl ?_
      refine sf_getr Iw22 rfl rfl ?_
      refine sf_iload rfl ?_
      refine sf_aload rfl ?_
      refine sf_iload rfl ?_
      refine sf_call2 rfl rfl rfl ?_
      refine sf_rv Iw22 rfl ?_
      refine sf_sp (L := [(0, .inl (.ref 1)), (1, .inl (.int a_l1))]) rfl rfl ?_
      refine sf_iload rfl ?_
      refine sf_iconst sf_cm1 (fun z25 ez25 => ?_)
      refine sf_f2_eq (fun h26 => ?_) (fun h26 => absurd h26 (by omega))
      refine sf_iconst sf_c0 (fun z27 ez27 => ?_)
      refine sf_ireturn rfl rfl ?_
      have g3 := c24
      refine sf_iast Iw22 sw22 rfl (by omega) (by omega) rfl rfl (fun w28 Iw28 sw28 kw28 uw28 => ?_)
      have c29 := sf_mf kw28 (p := 1) (j := 0) rfl
      have c30 := sf_ma kw28 (p := 2) rfl
      clear kw28
      have gd := uw28
      have gi : v21.toInt = (sf_f w0 1 0).toInt := by omega
      rw [gi, g3] at gd
      have gx : ∃ dv : Int32, sf_a w28 3 = upd (sf_a w0 3) (sf_f w0 1 0).toInt.toNat dv ∧ (a_l1.toInt = -1 → dv.toInt = 0) ∧ (0 ≤ a_l1.toInt → dv.toInt = (sf_a w0 3 a_l1.toInt.toNat).toInt + 1) ∧ 0 ≤ dv.toInt ∧ dv.toInt ≤ 5 := ⟨z27, gd, by omega, by omega, by omega, by omega⟩
      refine sf_aload rfl ?_
      refine sf_getr Iw28 rfl rfl ?_
      refine sf_iload rfl ?_
      refine sf_iconst sf_cm1 (fun z31 ez31 => ?_)
      refine sf_iast Iw28 sw28 rfl (by omega) (sf_bd _) rfl rfl (fun w32 Iw32 sw32 kw32 uw32 => ?_)
      have c33 := sf_mf kw32 (p := 1) (j := 0) rfl
      have c34 := sf_ma kw32 (p := 3) rfl
      have c35 := sf_ma kw32 (p := 2) rfl
      clear kw32 uw32
      refine sf_aload rfl ?_
      refine sf_dup rfl ?_
      refine sf_geti Iw32 rfl rfl (fun v36 lv36 uv36 ev36 => ?_)
      rw [c33, c29, c23] at ev36
      refine sf_iconst sf_c1 (fun z37 ez37 => ?_)
      refine sf_iadd (by omega) (fun v38 ev38 => ?_)
      refine sf_puti Iw32 sw32 rfl rfl (by omega) rfl rfl rfl (fun w39 Iw39 sw39 kw39 uw39 => ?_)
      have c40 := sf_ma kw39 (p := 3) rfl
      have c41 := sf_ma kw39 (p := 2) rfl
      clear kw39
      refine sf_iload rfl ?_
      refine sf_ireturn rfl rfl ?_
      refine sf_ireturn rfl rfl ?_
      refine sf_i2l (fun v42 ev42 => ?_)
      refine sf_last Iw39 sw39 rfl (by omega) rfl rfl (fun w43 Iw43 sw43 kw43 uw43 => ?_)
      have c44 := sf_mf kw43 (p := 1) (j := 0) rfl
      have c45 := sf_ma kw43 (p := 3) rfl
      have c46 := sf_ma kw43 (p := 2) rfl
      clear kw43
      have go : (sf_l w43 130 0).toInt = v42.toInt := by rw [uw43, show z1.toInt.toNat = 0 by omega]; unfold vp_updL; rw [if_pos rfl]
      refine sf_iconst sf_c0 (fun z47 ez47 => ?_)
      refine sf_ireturn rfl rfl ?_
      exact hR _ _ Iw43 sw43 (by omega) (by omega) (by rw [c44, uw39]; first | (refine Or.inl ⟨by omega, ?_⟩; omega) | (refine Or.inr (Or.inl ⟨by omega, ?_⟩); omega) | (refine Or.inr (Or.inr ⟨by omega, ?_⟩); omega)) (by rw [c45, c40, c34]; first | exact Or.inl ⟨by omega, rfl⟩ | (obtain ⟨dv, gy⟩ := gx; exact Or.inr ⟨dv, by omega, gy⟩)) (by rw [c46, c41, c35, c30]; first | exact Or.inl ⟨by omega, rfl⟩ | exact Or.inr ⟨by omega, u2⟩)
  · refine sf_aload rfl ?_
    refine sf_iload rfl ?_
    refine sf_call2 rfl rfl rfl ?_
    refine sf_rv hI0 rfl ?_
    refine sf_sp (L := [(0, .inl (.ref 0)), (1, .inl (.int a_l1))]) rfl rfl ?_
    refine sf_iload rfl ?_
    refine sf_aload rfl ?_
    refine sf_getr hI0 rfl rfl ?_
    refine sf_geti hI0 rfl rfl (fun v48 lv48 uv48 ev48 => ?_)
    refine sf_call2 rfl rfl rfl ?_
    refine sf_sp (L := [(0, .inl (.int a_l1)), (1, .inl (.int v48))]) rfl rfl ?_
    refine sf_iconst sf_c0 (fun z49 ez49 => ?_)
    refine sf_iload rfl ?_
    refine sf_f2_gt (fun h50 => ?_) (fun h50 => ?_)
    · refine sf_iconst sf_c0 (fun z51 ez51 => ?_)
      refine sf_zreturn (by omega) rfl rfl ?_
      refine sf_zreturn (by omega) rfl rfl ?_
      refine sf_f1_eq (fun h52 => ?_) (fun h52 => absurd h52 (by omega))
      refine sf_iconst sf_c0 (fun z53 ez53 => ?_)
      refine sf_call1 rfl rfl rfl ?_
      refine sf_sp (L := [(0, .inl (.int z53))]) rfl rfl ?_
      refine sf_iload rfl ?_
      refine sf_f1_eq (fun h54 => ?_) (fun h54 => absurd h54 (by omega))
      refine sf_throw rfl rfl ?_
      refine sf_xout rfl rfl ?_
      refine sf_xhh (L' := [(0, .inl (.ref 0)), (1, .inl (.int a_l1)), (2, .inl (.ref 130))]) rfl rfl ?_
      refine sf_iconst sf_c1 (fun z55 ez55 => ?_)
      refine sf_ireturn rfl rfl ?_
      exact hR _ _ hI0 hs0 (by omega) (by omega) (by first | (refine Or.inl ⟨by omega, ?_⟩; omega) | (refine Or.inr (Or.inl ⟨by omega, ?_⟩); omega) | (refine Or.inr (Or.inr ⟨by omega, ?_⟩); omega)) (by first | exact Or.inl ⟨by omega, rfl⟩ | (obtain ⟨dv, gy⟩ := gx; exact Or.inr ⟨dv, by omega, gy⟩)) (by first | exact Or.inl ⟨by omega, rfl⟩ | exact Or.inr ⟨by omega, u2⟩)
    · refine sf_iload rfl ?_
      refine sf_iload rfl ?_
      refine sf_f2_ge (fun h56 => ?_) (fun h56 => ?_)
      · refine sf_iconst sf_c0 (fun z57 ez57 => ?_)
        refine sf_zreturn (by omega) rfl rfl ?_
        refine sf_zreturn (by omega) rfl rfl ?_
        refine sf_f1_eq (fun h58 => ?_) (fun h58 => absurd h58 (by omega))
        refine sf_iconst sf_c0 (fun z59 ez59 => ?_)
        refine sf_call1 rfl rfl rfl ?_
        refine sf_sp (L := [(0, .inl (.int z59))]) rfl rfl ?_
        refine sf_iload rfl ?_
        refine sf_f1_eq (fun h60 => ?_) (fun h60 => absurd h60 (by omega))
        refine sf_throw rfl rfl ?_
        refine sf_xout rfl rfl ?_
        refine sf_xhh (L' := [(0, .inl (.ref 0)), (1, .inl (.int a_l1)), (2, .inl (.ref 130))]) rfl rfl ?_
        refine sf_iconst sf_c1 (fun z61 ez61 => ?_)
        refine sf_ireturn rfl rfl ?_
        exact hR _ _ hI0 hs0 (by omega) (by omega) (by first | (refine Or.inl ⟨by omega, ?_⟩; omega) | (refine Or.inr (Or.inl ⟨by omega, ?_⟩); omega) | (refine Or.inr (Or.inr ⟨by omega, ?_⟩); omega)) (by first | exact Or.inl ⟨by omega, rfl⟩ | (obtain ⟨dv, gy⟩ := gx; exact Or.inr ⟨dv, by omega, gy⟩)) (by first | exact Or.inl ⟨by omega, rfl⟩ | exact Or.inr ⟨by omega, u2⟩)
      · refine sf_iconst sf_c1 (fun z62 ez62 => ?_)
        refine sf_zreturn (by omega) rfl rfl ?_
        refine sf_zreturn (by omega) rfl rfl ?_
        refine sf_f1_eq (fun h63 => absurd h63 (by omega)) (fun h63 => ?_)
        refine sf_iconst sf_c1 (fun z64 ez64 => ?_)
        refine sf_call1 rfl rfl rfl ?_
        refine sf_sp (L := [(0, .inl (.int z64))]) rfl rfl ?_
        refine sf_iload rfl ?_
        refine sf_f1_eq (fun h65 => absurd h65 (by omega)) (fun h65 => ?_)
        refine sf_vreturn rfl rfl ?_
        refine sf_aload rfl ?_
        refine sf_getr hI0 rfl rfl ?_
        refine sf_geti hI0 rfl rfl (fun v66 lv66 uv66 ev66 => ?_)
        refine sf_iconst sf_c24 (fun z67 ez67 => ?_)
        refine sf_f2_ge (fun h68 => ?_) (fun h68 => ?_)
        · refine sf_iconst sf_c0 (fun z69 ez69 => ?_)
          refine sf_call1 rfl rfl rfl ?_
          refine sf_sp (L := [(0, .inl (.int z69))]) rfl rfl ?_
          refine sf_iload rfl ?_
          refine sf_f1_eq (fun h70 => ?_) (fun h70 => absurd h70 (by omega))
          refine sf_throw rfl rfl ?_
          refine sf_xout rfl rfl ?_
          refine sf_xhm rfl ?_
          refine sf_xhh (L' := [(0, .inl (.ref 0)), (1, .inl (.int a_l1)), (2, .inl (.ref 130))]) rfl rfl ?_
          refine sf_iconst sf_c2 (fun z71 ez71 => ?_)
          refine sf_ireturn rfl rfl ?_
          exact hR _ _ hI0 hs0 (by omega) (by omega) (by first | (refine Or.inl ⟨by omega, ?_⟩; omega) | (refine Or.inr (Or.inl ⟨by omega, ?_⟩); omega) | (refine Or.inr (Or.inr ⟨by omega, ?_⟩); omega)) (by first | exact Or.inl ⟨by omega, rfl⟩ | (obtain ⟨dv, gy⟩ := gx; exact Or.inr ⟨dv, by omega, gy⟩)) (by first | exact Or.inl ⟨by omega, rfl⟩ | exact Or.inr ⟨by omega, u2⟩)
        · refine sf_iconst sf_c1 (fun z72 ez72 => ?_)
          refine sf_call1 rfl rfl rfl ?_
          refine sf_sp (L := [(0, .inl (.int z72))]) rfl rfl ?_
          refine sf_iload rfl ?_
          refine sf_f1_eq (fun h73 => absurd h73 (by omega)) (fun h73 => ?_)
          refine sf_vreturn rfl rfl ?_
          refine sf_aload rfl ?_
          refine sf_getr hI0 rfl rfl ?_
          refine sf_iload rfl ?_
          refine sf_call2 rfl rfl rfl ?_
          refine sf_rv hI0 rfl ?_
          refine sf_sp (L := [(0, .inl (.ref 1)), (1, .inl (.int a_l1))]) rfl rfl ?_
          refine sf_iload rfl ?_
          refine sf_iconst sf_cm1 (fun z74 ez74 => ?_)
          refine sf_f2_eq (fun h75 => absurd h75 (by omega)) (fun h75 => ?_)
          refine sf_aload rfl ?_
          refine sf_getr hI0 rfl rfl ?_
          refine sf_iload rfl ?_
          refine sf_iald hI0 rfl (by omega) (fun v76 lv76 uv76 ev76 => ?_)
          refine sf_iconst sf_c1 (fun z77 ez77 => ?_)
          refine sf_iadd (by omega) (fun v78 ev78 => ?_)
          refine sf_ireturn rfl rfl ?_
          refine sf_iconst sf_c5 (fun z79 ez79 => ?_)
          refine sf_f2_gt (fun h80 => ?_) (fun h80 => ?_)
          · refine sf_iconst sf_c0 (fun z81 ez81 => ?_)
            refine sf_call1 rfl rfl rfl ?_
            refine sf_sp (L := [(0, .inl (.int z81))]) rfl rfl ?_
            refine sf_iload rfl ?_
            refine sf_f1_eq (fun h82 => ?_) (fun h82 => absurd h82 (by omega))
            refine sf_throw rfl rfl ?_
            refine sf_xout rfl rfl ?_
            refine sf_xhm rfl ?_
            refine sf_xhh (L' := [(0, .inl (.ref 0)), (1, .inl (.int a_l1)), (2, .inl (.ref 130))]) rfl rfl ?_
            refine sf_iconst sf_c2 (fun z83 ez83 => ?_)
            refine sf_ireturn rfl rfl ?_
            exact hR _ _ hI0 hs0 (by omega) (by omega) (by first | (refine Or.inl ⟨by omega, ?_⟩; omega) | (refine Or.inr (Or.inl ⟨by omega, ?_⟩); omega) | (refine Or.inr (Or.inr ⟨by omega, ?_⟩); omega)) (by first | exact Or.inl ⟨by omega, rfl⟩ | (obtain ⟨dv, gy⟩ := gx; exact Or.inr ⟨dv, by omega, gy⟩)) (by first | exact Or.inl ⟨by omega, rfl⟩ | exact Or.inr ⟨by omega, u2⟩)
          · refine sf_iconst sf_c1 (fun z84 ez84 => ?_)
            refine sf_call1 rfl rfl rfl ?_
            refine sf_sp (L := [(0, .inl (.int z84))]) rfl rfl ?_
            refine sf_iload rfl ?_
            refine sf_f1_eq (fun h85 => absurd h85 (by omega)) (fun h85 => ?_)
            refine sf_vreturn rfl rfl ?_
            refine sf_aload rfl ?_
            refine sf_getr hI0 rfl rfl ?_
            refine sf_iload rfl ?_
            refine sf_call2 rfl rfl rfl ?_
            refine sf_rv hI0 rfl ?_
            refine sf_sp (L := [(0, .inl (.ref 1)), (1, .inl (.int a_l1))]) rfl rfl ?_
            refine sf_aload rfl ?_
            refine sf_geti hI0 rfl rfl (fun v86 lv86 uv86 ev86 => ?_)
            refine sf_istore (L' := [(0, .inl (.ref 1)), (1, .inl (.int a_l1))]) rfl ?_
            refine sf_aload rfl ?_
            refine sf_getr hI0 rfl rfl ?_
            refine sf_iload rfl ?_
            refine sf_iload rfl ?_
            refine sf_iast hI0 hs0 rfl (by omega) (by omega) rfl rfl (fun w87 Iw87 sw87 kw87 uw87 => ?_)
            have c88 := sf_mf kw87 (p := 1) (j := 0) rfl
            have c89 := sf_ma kw87 (p := 3) rfl
            clear kw87
            have u2 := uw87
            rw [show v86.toInt = (sf_f w0 1 0).toInt by omega] at u2
            skip
            refine sf_aload rfl ?_
            refine sf_getr Iw87 rfl rfl ?_
            refine sf_iload rfl ?_
            refine sf_aload rfl ?_
            refine sf_iload rfl ?_
            refine sf_call2 rfl rfl rfl ?_
            refine sf_rv Iw87 rfl ?_
            refine sf_sp (L := [(0, .inl (.ref 1)), (1, .inl (.int a_l1))]) rfl rfl ?_
            refine sf_iload rfl ?_
            refine sf_iconst sf_cm1 (fun z90 ez90 => ?_)
            refine sf_f2_eq (fun h91 => absurd h91 (by omega)) (fun h91 => ?_)
            refine sf_aload rfl ?_
            refine sf_getr Iw87 rfl rfl ?_
            refine sf_iload rfl ?_
            refine sf_iald Iw87 rfl (by omega) (fun v92 lv92 uv92 ev92 => ?_)
            rw [c89] at ev92
            refine sf_iconst sf_c1 (fun z93 ez93 => ?_)
            refine sf_iadd (by omega) (fun v94 ev94 => ?_)
            refine sf_ireturn rfl rfl ?_
            have g3 := c89
            refine sf_iast Iw87 sw87 rfl (by omega) (by omega) rfl rfl (fun w95 Iw95 sw95 kw95 uw95 => ?_)
            have c96 := sf_mf kw95 (p := 1) (j := 0) rfl
            have c97 := sf_ma kw95 (p := 2) rfl
            clear kw95
            have gd := uw95
            have gi : v86.toInt = (sf_f w0 1 0).toInt := by omega
            rw [gi, g3] at gd
            have gx : ∃ dv : Int32, sf_a w95 3 = upd (sf_a w0 3) (sf_f w0 1 0).toInt.toNat dv ∧ (a_l1.toInt = -1 → dv.toInt = 0) ∧ (0 ≤ a_l1.toInt → dv.toInt = (sf_a w0 3 a_l1.toInt.toNat).toInt + 1) ∧ 0 ≤ dv.toInt ∧ dv.toInt ≤ 5 := ⟨v94, gd, by omega, by omega, by omega, by omega⟩
            refine sf_aload rfl ?_
            refine sf_getr Iw95 rfl rfl ?_
            refine sf_iload rfl ?_
            refine sf_iconst sf_cm1 (fun z98 ez98 => ?_)
            refine sf_iast Iw95 sw95 rfl (by omega) (sf_bd _) rfl rfl (fun w99 Iw99 sw99 kw99 uw99 => ?_)
            have c100 := sf_mf kw99 (p := 1) (j := 0) rfl
            have c101 := sf_ma kw99 (p := 3) rfl
            have c102 := sf_ma kw99 (p := 2) rfl
            clear kw99 uw99
            refine sf_aload rfl ?_
            refine sf_dup rfl ?_
            refine sf_geti Iw99 rfl rfl (fun v103 lv103 uv103 ev103 => ?_)
            rw [c100, c96, c88] at ev103
            refine sf_iconst sf_c1 (fun z104 ez104 => ?_)
            refine sf_iadd (by omega) (fun v105 ev105 => ?_)
            refine sf_puti Iw99 sw99 rfl rfl (by omega) rfl rfl rfl (fun w106 Iw106 sw106 kw106 uw106 => ?_)
            have c107 := sf_ma kw106 (p := 3) rfl
            have c108 := sf_ma kw106 (p := 2) rfl
            clear kw106
            refine sf_iload rfl ?_
            refine sf_ireturn rfl rfl ?_
            refine sf_ireturn rfl rfl ?_
            refine sf_i2l (fun v109 ev109 => ?_)
            refine sf_last Iw106 sw106 rfl (by omega) rfl rfl (fun w110 Iw110 sw110 kw110 uw110 => ?_)
            have c111 := sf_mf kw110 (p := 1) (j := 0) rfl
            have c112 := sf_ma kw110 (p := 3) rfl
            have c113 := sf_ma kw110 (p := 2) rfl
            clear kw110
            have go : (sf_l w110 130 0).toInt = v109.toInt := by rw [uw110, show z1.toInt.toNat = 0 by omega]; unfold vp_updL; rw [if_pos rfl]
            refine sf_iconst sf_c0 (fun z114 ez114 => ?_)
            refine sf_ireturn rfl rfl ?_
            exact hR _ _ Iw110 sw110 (by omega) (by omega) (by rw [c111, uw106]; first | (refine Or.inl ⟨by omega, ?_⟩; omega) | (refine Or.inr (Or.inl ⟨by omega, ?_⟩); omega) | (refine Or.inr (Or.inr ⟨by omega, ?_⟩); omega)) (by rw [c112, c107, c101]; first | exact Or.inl ⟨by omega, rfl⟩ | (obtain ⟨dv, gy⟩ := gx; exact Or.inr ⟨dv, by omega, gy⟩)) (by rw [c113, c108, c102, c97]; first | exact Or.inl ⟨by omega, rfl⟩ | exact Or.inr ⟨by omega, u2⟩)
def sm_W_note_0_130 : List Nat := [1, 6, 7, 8, 9, 130, 1105]
set_option maxRecDepth 100000 in
set_option maxHeartbeats 4000000 in
theorem sc_W_note_0_130 {w0 : wq_W} (hI0 : sf_I w0) {rt : Option wq_V → wq_W → Prop} {xt : Nat → wq_W → Prop} {a_l1 : Int32} {a_l2 : Int32} {a_l3 : Int32} {a_l4 : Int32}  (hR : ∀ (r : Int32) (w : wq_W), sf_I w → sf_m sm_W_note_0_130 w0 w → 0 ≤ r.toInt → r.toInt ≤ 2 → (((r.toInt = 0 ∧ (0 ≤ a_l1.toInt ∧ a_l1.toInt < (sf_f w0 1 0).toInt ∧ 0 ≤ a_l2.toInt ∧ a_l2.toInt ≤ 2 ∧ 0 ≤ a_l3.toInt ∧ a_l3.toInt ≤ 7 ∧ 1 ≤ a_l4.toInt ∧ a_l4.toInt ≤ 1000 ∧ (a_l2.toInt ≠ 2 ∨ a_l3.toInt < 4)) ∧ ((sf_f w0 1 5).toInt < 40) ∧ (sf_f w 1 5).toInt = (sf_f w0 1 5).toInt + 1 ∧ (sf_l w 130 0).toInt = (sf_f w0 1 5).toInt) ∨ (r.toInt = 1 ∧ ¬ (0 ≤ a_l1.toInt ∧ a_l1.toInt < (sf_f w0 1 0).toInt ∧ 0 ≤ a_l2.toInt ∧ a_l2.toInt ≤ 2 ∧ 0 ≤ a_l3.toInt ∧ a_l3.toInt ≤ 7 ∧ 1 ≤ a_l4.toInt ∧ a_l4.toInt ≤ 1000 ∧ (a_l2.toInt ≠ 2 ∨ a_l3.toInt < 4)) ∧ (sf_f w 1 5).toInt = (sf_f w0 1 5).toInt) ∨ (r.toInt = 2 ∧ (0 ≤ a_l1.toInt ∧ a_l1.toInt < (sf_f w0 1 0).toInt ∧ 0 ≤ a_l2.toInt ∧ a_l2.toInt ≤ 2 ∧ 0 ≤ a_l3.toInt ∧ a_l3.toInt ≤ 7 ∧ 1 ≤ a_l4.toInt ∧ a_l4.toInt ≤ 1000 ∧ (a_l2.toInt ≠ 2 ∨ a_l3.toInt < 4)) ∧ ¬ ((sf_f w0 1 5).toInt < 40) ∧ (sf_f w 1 5).toInt = (sf_f w0 1 5).toInt))) → (sf_U (sf_a w0 6) (sf_a w 6) (sf_f w0 1 5).toInt r.toInt a_l1) → (sf_U (sf_a w0 7) (sf_a w 7) (sf_f w0 1 5).toInt r.toInt a_l2) → (sf_U (sf_a w0 8) (sf_a w 8) (sf_f w0 1 5).toInt r.toInt a_l3) → (sf_U (sf_a w0 9) (sf_a w 9) (sf_f w0 1 5).toInt r.toInt a_l4) → rt (some (.inl (.int r))) w) : ks_W_note [.inl (.ref 0), .inl (.int a_l1), .inl (.int a_l2), .inl (.int a_l3), .inl (.int a_l4), .inl (.ref 130)] w0 rt xt := by
  have hs0 : sf_m sm_W_note_0_130 w0 w0 := sf_m0
  refine sf_sp (L := [(0, .inl (.ref 0)), (1, .inl (.int a_l1)), (2, .inl (.int a_l2)), (3, .inl (.int a_l3)), (4, .inl (.int a_l4)), (5, .inl (.ref 130))]) rfl rfl ?_
  refine sf_aload rfl ?_
  refine sf_iconst sf_c0 (fun z1 ez1 => ?_)
  refine sf_aload rfl ?_
  refine sf_iload rfl ?_
  refine sf_iload rfl ?_
  refine sf_iload rfl ?_
  refine sf_iload rfl ?_
  refine sf_call5 rfl rfl rfl ?_
  refine sf_rv hI0 rfl ?_
  refine sf_sp (L := [(0, .inl (.ref 0)), (1, .inl (.int a_l1)), (2, .inl (.int a_l2)), (3, .inl (.int a_l3)), (4, .inl (.int a_l4))]) rfl rfl ?_
  refine sf_aload rfl ?_
  refine sf_iload rfl ?_
  refine sf_call2 rfl rfl rfl ?_
  refine sf_rv hI0 rfl ?_
  refine sf_sp (L := [(0, .inl (.ref 0)), (1, .inl (.int a_l1))]) rfl rfl ?_
  refine sf_iload rfl ?_
  refine sf_aload rfl ?_
  refine sf_getr hI0 rfl rfl ?_
  refine sf_geti hI0 rfl rfl (fun v2 lv2 uv2 ev2 => ?_)
  refine sf_call2 rfl rfl rfl ?_
  refine sf_sp (L := [(0, .inl (.int a_l1)), (1, .inl (.int v2))]) rfl rfl ?_
  refine sf_iconst sf_c0 (fun z3 ez3 => ?_)
  refine sf_iload rfl ?_
  refine sf_f2_gt (fun h4 => ?_) (fun h4 => ?_)
  · refine sf_iconst sf_c0 (fun z5 ez5 => ?_)
    refine sf_zreturn (by omega) rfl rfl ?_
    refine sf_zreturn (by omega) rfl rfl ?_
    refine sf_f1_eq (fun h6 => ?_) (fun h6 => absurd h6 (by omega))
    refine sf_iconst sf_c0 (fun z7 ez7 => ?_)
    refine sf_call1 rfl rfl rfl ?_
    refine sf_sp (L := [(0, .inl (.int z7))]) rfl rfl ?_
    refine sf_iload rfl ?_
    refine sf_f1_eq (fun h8 => ?_) (fun h8 => absurd h8 (by omega))
    refine sf_throw rfl rfl ?_
    refine sf_xout rfl rfl ?_
    refine sf_xhh (L' := [(0, .inl (.ref 0)), (1, .inl (.int a_l1)), (2, .inl (.int a_l2)), (3, .inl (.int a_l3)), (4, .inl (.int a_l4)), (5, .inl (.ref 130))]) rfl rfl ?_
    refine sf_iconst sf_c1 (fun z9 ez9 => ?_)
    refine sf_ireturn rfl rfl ?_
    exact hR _ _ hI0 hs0 (by omega) (by omega) (by first | (refine Or.inl ⟨by omega, ?_⟩; omega) | (refine Or.inr (Or.inl ⟨by omega, ?_⟩); omega) | (refine Or.inr (Or.inr ⟨by omega, ?_⟩); omega)) (by first | exact Or.inl ⟨by omega, rfl⟩ | exact Or.inr ⟨by omega, u6⟩) (by first | exact Or.inl ⟨by omega, rfl⟩ | exact Or.inr ⟨by omega, u7⟩) (by first | exact Or.inl ⟨by omega, rfl⟩ | exact Or.inr ⟨by omega, u8⟩) (by first | exact Or.inl ⟨by omega, rfl⟩ | exact Or.inr ⟨by omega, u9⟩)
  · refine sf_iload rfl ?_
    refine sf_iload rfl ?_
    refine sf_f2_ge (fun h10 => ?_) (fun h10 => ?_)
    · refine sf_iconst sf_c0 (fun z11 ez11 => ?_)
      refine sf_zreturn (by omega) rfl rfl ?_
      refine sf_zreturn (by omega) rfl rfl ?_
      refine sf_f1_eq (fun h12 => ?_) (fun h12 => absurd h12 (by omega))
      refine sf_iconst sf_c0 (fun z13 ez13 => ?_)
      refine sf_call1 rfl rfl rfl ?_
      refine sf_sp (L := [(0, .inl (.int z13))]) rfl rfl ?_
      refine sf_iload rfl ?_
      refine sf_f1_eq (fun h14 => ?_) (fun h14 => absurd h14 (by omega))
      refine sf_throw rfl rfl ?_
      refine sf_xout rfl rfl ?_
      refine sf_xhh (L' := [(0, .inl (.ref 0)), (1, .inl (.int a_l1)), (2, .inl (.int a_l2)), (3, .inl (.int a_l3)), (4, .inl (.int a_l4)), (5, .inl (.ref 130))]) rfl rfl ?_
      refine sf_iconst sf_c1 (fun z15 ez15 => ?_)
      refine sf_ireturn rfl rfl ?_
      exact hR _ _ hI0 hs0 (by omega) (by omega) (by first | (refine Or.inl ⟨by omega, ?_⟩; omega) | (refine Or.inr (Or.inl ⟨by omega, ?_⟩); omega) | (refine Or.inr (Or.inr ⟨by omega, ?_⟩); omega)) (by first | exact Or.inl ⟨by omega, rfl⟩ | exact Or.inr ⟨by omega, u6⟩) (by first | exact Or.inl ⟨by omega, rfl⟩ | exact Or.inr ⟨by omega, u7⟩) (by first | exact Or.inl ⟨by omega, rfl⟩ | exact Or.inr ⟨by omega, u8⟩) (by first | exact Or.inl ⟨by omega, rfl⟩ | exact Or.inr ⟨by omega, u9⟩)
    · refine sf_iconst sf_c1 (fun z16 ez16 => ?_)
      refine sf_zreturn (by omega) rfl rfl ?_
      refine sf_zreturn (by omega) rfl rfl ?_
      refine sf_f1_eq (fun h17 => absurd h17 (by omega)) (fun h17 => ?_)
      refine sf_iload rfl ?_
      refine sf_call1 rfl rfl rfl ?_
      refine sf_sp (L := [(0, .inl (.int a_l3))]) rfl rfl ?_
      refine sf_iload rfl ?_
      refine sf_iconst sf_c8 (fun z18 ez18 => ?_)
      refine sf_call2 rfl rfl rfl ?_
      refine sf_sp (L := [(0, .inl (.int a_l3)), (1, .inl (.int z18))]) rfl rfl ?_
      refine sf_iconst sf_c0 (fun z19 ez19 => ?_)
      refine sf_iload rfl ?_
      refine sf_f2_gt (fun h20 => ?_) (fun h20 => ?_)
      · refine sf_iconst sf_c0 (fun z21 ez21 => ?_)
        refine sf_zreturn (by omega) rfl rfl ?_
        refine sf_zreturn (by omega) rfl rfl ?_
        refine sf_f1_eq (fun h22 => ?_) (fun h22 => absurd h22 (by omega))
        refine sf_iconst sf_c0 (fun z23 ez23 => ?_)
        refine sf_call1 rfl rfl rfl ?_
        refine sf_sp (L := [(0, .inl (.int z23))]) rfl rfl ?_
        refine sf_iload rfl ?_
        refine sf_f1_eq (fun h24 => ?_) (fun h24 => absurd h24 (by omega))
        refine sf_throw rfl rfl ?_
        refine sf_xout rfl rfl ?_
        refine sf_xhh (L' := [(0, .inl (.ref 0)), (1, .inl (.int a_l1)), (2, .inl (.int a_l2)), (3, .inl (.int a_l3)), (4, .inl (.int a_l4)), (5, .inl (.ref 130))]) rfl rfl ?_
        refine sf_iconst sf_c1 (fun z25 ez25 => ?_)
        refine sf_ireturn rfl rfl ?_
        exact hR _ _ hI0 hs0 (by omega) (by omega) (by first | (refine Or.inl ⟨by omega, ?_⟩; omega) | (refine Or.inr (Or.inl ⟨by omega, ?_⟩); omega) | (refine Or.inr (Or.inr ⟨by omega, ?_⟩); omega)) (by first | exact Or.inl ⟨by omega, rfl⟩ | exact Or.inr ⟨by omega, u6⟩) (by first | exact Or.inl ⟨by omega, rfl⟩ | exact Or.inr ⟨by omega, u7⟩) (by first | exact Or.inl ⟨by omega, rfl⟩ | exact Or.inr ⟨by omega, u8⟩) (by first | exact Or.inl ⟨by omega, rfl⟩ | exact Or.inr ⟨by omega, u9⟩)
      · refine sf_iload rfl ?_
        refine sf_iload rfl ?_
        refine sf_f2_ge (fun h26 => ?_) (fun h26 => ?_)
        · refine sf_iconst sf_c0 (fun z27 ez27 => ?_)
          refine sf_zreturn (by omega) rfl rfl ?_
          refine sf_zreturn (by omega) rfl rfl ?_
          refine sf_f1_eq (fun h28 => ?_) (fun h28 => absurd h28 (by omega))
          refine sf_iconst sf_c0 (fun z29 ez29 => ?_)
          refine sf_call1 rfl rfl rfl ?_
          refine sf_sp (L := [(0, .inl (.int z29))]) rfl rfl ?_
          refine sf_iload rfl ?_
          refine sf_f1_eq (fun h30 => ?_) (fun h30 => absurd h30 (by omega))
          refine sf_throw rfl rfl ?_
          refine sf_xout rfl rfl ?_
          refine sf_xhh (L' := [(0, .inl (.ref 0)), (1, .inl (.int a_l1)), (2, .inl (.int a_l2)), (3, .inl (.int a_l3)), (4, .inl (.int a_l4)), (5, .inl (.ref 130))]) rfl rfl ?_
          refine sf_iconst sf_c1 (fun z31 ez31 => ?_)
          refine sf_ireturn rfl rfl ?_
          exact hR _ _ hI0 hs0 (by omega) (by omega) (by first | (refine Or.inl ⟨by omega, ?_⟩; omega) | (refine Or.inr (Or.inl ⟨by omega, ?_⟩); omega) | (refine Or.inr (Or.inr ⟨by omega, ?_⟩); omega)) (by first | exact Or.inl ⟨by omega, rfl⟩ | exact Or.inr ⟨by omega, u6⟩) (by first | exact Or.inl ⟨by omega, rfl⟩ | exact Or.inr ⟨by omega, u7⟩) (by first | exact Or.inl ⟨by omega, rfl⟩ | exact Or.inr ⟨by omega, u8⟩) (by first | exact Or.inl ⟨by omega, rfl⟩ | exact Or.inr ⟨by omega, u9⟩)
        · refine sf_iconst sf_c1 (fun z32 ez32 => ?_)
          refine sf_zreturn (by omega) rfl rfl ?_
          refine sf_zreturn (by omega) rfl rfl ?_
          refine sf_f1_eq (fun h33 => absurd h33 (by omega)) (fun h33 => ?_)
          refine sf_iconst sf_c1 (fun z34 ez34 => ?_)
          refine sf_call1 rfl rfl rfl ?_
          refine sf_sp (L := [(0, .inl (.int z34))]) rfl rfl ?_
          refine sf_iload rfl ?_
          refine sf_f1_eq (fun h35 => absurd h35 (by omega)) (fun h35 => ?_)
          refine sf_vreturn rfl rfl ?_
          refine sf_iload rfl ?_
          refine sf_iconst sf_c0 (fun z36 ez36 => ?_)
          refine sf_iconst sf_c2 (fun z37 ez37 => ?_)
          refine sf_call3 rfl rfl rfl ?_
          refine sf_sp (L := [(0, .inl (.int a_l2)), (1, .inl (.int z36)), (2, .inl (.int z37))]) rfl rfl ?_
          refine sf_iload rfl ?_
          refine sf_iload rfl ?_
          refine sf_f2_gt (fun h38 => ?_) (fun h38 => ?_)
          · refine sf_iconst sf_c0 (fun z39 ez39 => ?_)
            refine sf_zreturn (by omega) rfl rfl ?_
            refine sf_call1 rfl rfl rfl ?_
            refine sf_sp (L := [(0, .inl (.int z39))]) rfl rfl ?_
            refine sf_iload rfl ?_
            refine sf_f1_eq (fun h40 => ?_) (fun h40 => absurd h40 (by omega))
            refine sf_throw rfl rfl ?_
            refine sf_xout rfl rfl ?_
            refine sf_xhh (L' := [(0, .inl (.ref 0)), (1, .inl (.int a_l1)), (2, .inl (.int a_l2)), (3, .inl (.int a_l3)), (4, .inl (.int a_l4)), (5, .inl (.ref 130))]) rfl rfl ?_
            refine sf_iconst sf_c1 (fun z41 ez41 => ?_)
            refine sf_ireturn rfl rfl ?_
            exact hR _ _ hI0 hs0 (by omega) (by omega) (by first | (refine Or.inl ⟨by omega, ?_⟩; omega) | (refine Or.inr (Or.inl ⟨by omega, ?_⟩); omega) | (refine Or.inr (Or.inr ⟨by omega, ?_⟩); omega)) (by first | exact Or.inl ⟨by omega, rfl⟩ | exact Or.inr ⟨by omega, u6⟩) (by first | exact Or.inl ⟨by omega, rfl⟩ | exact Or.inr ⟨by omega, u7⟩) (by first | exact Or.inl ⟨by omega, rfl⟩ | exact Or.inr ⟨by omega, u8⟩) (by first | exact Or.inl ⟨by omega, rfl⟩ | exact Or.inr ⟨by omega, u9⟩)
          · refine sf_iload rfl ?_
            refine sf_iload rfl ?_
            refine sf_f2_gt (fun h42 => ?_) (fun h42 => ?_)
            · refine sf_iconst sf_c0 (fun z43 ez43 => ?_)
              refine sf_zreturn (by omega) rfl rfl ?_
              refine sf_call1 rfl rfl rfl ?_
              refine sf_sp (L := [(0, .inl (.int z43))]) rfl rfl ?_
              refine sf_iload rfl ?_
              refine sf_f1_eq (fun h44 => ?_) (fun h44 => absurd h44 (by omega))
              refine sf_throw rfl rfl ?_
              refine sf_xout rfl rfl ?_
              refine sf_xhh (L' := [(0, .inl (.ref 0)), (1, .inl (.int a_l1)), (2, .inl (.int a_l2)), (3, .inl (.int a_l3)), (4, .inl (.int a_l4)), (5, .inl (.ref 130))]) rfl rfl ?_
              refine sf_iconst sf_c1 (fun z45 ez45 => ?_)
              refine sf_ireturn rfl rfl ?_
              exact hR _ _ hI0 hs0 (by omega) (by omega) (by first | (refine Or.inl ⟨by omega, ?_⟩; omega) | (refine Or.inr (Or.inl ⟨by omega, ?_⟩); omega) | (refine Or.inr (Or.inr ⟨by omega, ?_⟩); omega)) (by first | exact Or.inl ⟨by omega, rfl⟩ | exact Or.inr ⟨by omega, u6⟩) (by first | exact Or.inl ⟨by omega, rfl⟩ | exact Or.inr ⟨by omega, u7⟩) (by first | exact Or.inl ⟨by omega, rfl⟩ | exact Or.inr ⟨by omega, u8⟩) (by first | exact Or.inl ⟨by omega, rfl⟩ | exact Or.inr ⟨by omega, u9⟩)
            · refine sf_iconst sf_c1 (fun z46 ez46 => ?_)
              refine sf_zreturn (by omega) rfl rfl ?_
              refine sf_call1 rfl rfl rfl ?_
              refine sf_sp (L := [(0, .inl (.int z46))]) rfl rfl ?_
              refine sf_iload rfl ?_
              refine sf_f1_eq (fun h47 => absurd h47 (by omega)) (fun h47 => ?_)
              refine sf_vreturn rfl rfl ?_
              refine sf_iload rfl ?_
              refine sf_iconst sf_c1 (fun z48 ez48 => ?_)
              refine sf_iconst sf_c1000 (fun z49 ez49 => ?_)
              refine sf_call3 rfl rfl rfl ?_
              refine sf_sp (L := [(0, .inl (.int a_l4)), (1, .inl (.int z48)), (2, .inl (.int z49))]) rfl rfl ?_
              refine sf_iload rfl ?_
              refine sf_iload rfl ?_
              refine sf_f2_gt (fun h50 => ?_) (fun h50 => ?_)
              · refine sf_iconst sf_c0 (fun z51 ez51 => ?_)
                refine sf_zreturn (by omega) rfl rfl ?_
                refine sf_call1 rfl rfl rfl ?_
                refine sf_sp (L := [(0, .inl (.int z51))]) rfl rfl ?_
                refine sf_iload rfl ?_
                refine sf_f1_eq (fun h52 => ?_) (fun h52 => absurd h52 (by omega))
                refine sf_throw rfl rfl ?_
                refine sf_xout rfl rfl ?_
                refine sf_xhh (L' := [(0, .inl (.ref 0)), (1, .inl (.int a_l1)), (2, .inl (.int a_l2)), (3, .inl (.int a_l3)), (4, .inl (.int a_l4)), (5, .inl (.ref 130))]) rfl rfl ?_
                refine sf_iconst sf_c1 (fun z53 ez53 => ?_)
                refine sf_ireturn rfl rfl ?_
                exact hR _ _ hI0 hs0 (by omega) (by omega) (by first | (refine Or.inl ⟨by omega, ?_⟩; omega) | (refine Or.inr (Or.inl ⟨by omega, ?_⟩); omega) | (refine Or.inr (Or.inr ⟨by omega, ?_⟩); omega)) (by first | exact Or.inl ⟨by omega, rfl⟩ | exact Or.inr ⟨by omega, u6⟩) (by first | exact Or.inl ⟨by omega, rfl⟩ | exact Or.inr ⟨by omega, u7⟩) (by first | exact Or.inl ⟨by omega, rfl⟩ | exact Or.inr ⟨by omega, u8⟩) (by first | exact Or.inl ⟨by omega, rfl⟩ | exact Or.inr ⟨by omega, u9⟩)
              · refine sf_iload rfl ?_
                refine sf_iload rfl ?_
                refine sf_f2_gt (fun h54 => ?_) (fun h54 => ?_)
                · refine sf_iconst sf_c0 (fun z55 ez55 => ?_)
                  refine sf_zreturn (by omega) rfl rfl ?_
                  refine sf_call1 rfl rfl rfl ?_
                  refine sf_sp (L := [(0, .inl (.int z55))]) rfl rfl ?_
                  refine sf_iload rfl ?_
                  refine sf_f1_eq (fun h56 => ?_) (fun h56 => absurd h56 (by omega))
                  refine sf_throw rfl rfl ?_
                  refine sf_xout rfl rfl ?_
                  refine sf_xhh (L' := [(0, .inl (.ref 0)), (1, .inl (.int a_l1)), (2, .inl (.int a_l2)), (3, .inl (.int a_l3)), (4, .inl (.int a_l4)), (5, .inl (.ref 130))]) rfl rfl ?_
                  refine sf_iconst sf_c1 (fun z57 ez57 => ?_)
                  refine sf_ireturn rfl rfl ?_
                  exact hR _ _ hI0 hs0 (by omega) (by omega) (by first | (refine Or.inl ⟨by omega, ?_⟩; omega) | (refine Or.inr (Or.inl ⟨by omega, ?_⟩); omega) | (refine Or.inr (Or.inr ⟨by omega, ?_⟩); omega)) (by first | exact Or.inl ⟨by omega, rfl⟩ | exact Or.inr ⟨by omega, u6⟩) (by first | exact Or.inl ⟨by omega, rfl⟩ | exact Or.inr ⟨by omega, u7⟩) (by first | exact Or.inl ⟨by omega, rfl⟩ | exact Or.inr ⟨by omega, u8⟩) (by first | exact Or.inl ⟨by omega, rfl⟩ | exact Or.inr ⟨by omega, u9⟩)
                · refine sf_iconst sf_c1 (fun z58 ez58 => ?_)
                  refine sf_zreturn (by omega) rfl rfl ?_
                  refine sf_call1 rfl rfl rfl ?_
                  refine sf_sp (L := [(0, .inl (.int z58))]) rfl rfl ?_
                  refine sf_iload rfl ?_
                  refine sf_f1_eq (fun h59 => absurd h59 (by omega)) (fun h59 => ?_)
                  refine sf_vreturn rfl rfl ?_
                  refine sf_iload rfl ?_
                  refine sf_iconst sf_c2 (fun z60 ez60 => ?_)
                  refine sf_f2_eq (fun h61 => ?_) (fun h61 => ?_)
                  · refine sf_iload rfl ?_
                    refine sf_iconst sf_c4 (fun z62 ez62 => ?_)
                    refine sf_f2_ge (fun h63 => ?_) (fun h63 => ?_)
                    · refine sf_iconst sf_c0 (fun z64 ez64 => ?_)
                      refine sf_call1 rfl rfl rfl ?_
                      refine sf_sp (L := [(0, .inl (.int z64))]) rfl rfl ?_
                      refine sf_iload rfl ?_
                      refine sf_f1_eq (fun h65 => ?_) (fun h65 => absurd h65 (by omega))
                      refine sf_throw rfl rfl ?_
                      refine sf_xout rfl rfl ?_
                      refine sf_xhh (L' := [(0, .inl (.ref 0)), (1, .inl (.int a_l1)), (2, .inl (.int a_l2)), (3, .inl (.int a_l3)), (4, .inl (.int a_l4)), (5, .inl (.ref 130))]) rfl rfl ?_
                      refine sf_iconst sf_c1 (fun z66 ez66 => ?_)
                      refine sf_ireturn rfl rfl ?_
                      exact hR _ _ hI0 hs0 (by omega) (by omega) (by first | (refine Or.inl ⟨by omega, ?_⟩; omega) | (refine Or.inr (Or.inl ⟨by omega, ?_⟩); omega) | (refine Or.inr (Or.inr ⟨by omega, ?_⟩); omega)) (by first | exact Or.inl ⟨by omega, rfl⟩ | exact Or.inr ⟨by omega, u6⟩) (by first | exact Or.inl ⟨by omega, rfl⟩ | exact Or.inr ⟨by omega, u7⟩) (by first | exact Or.inl ⟨by omega, rfl⟩ | exact Or.inr ⟨by omega, u8⟩) (by first | exact Or.inl ⟨by omega, rfl⟩ | exact Or.inr ⟨by omega, u9⟩)
                    · refine sf_iconst sf_c1 (fun z67 ez67 => ?_)
                      refine sf_call1 rfl rfl rfl ?_
                      refine sf_sp (L := [(0, .inl (.int z67))]) rfl rfl ?_
                      refine sf_iload rfl ?_
                      refine sf_f1_eq (fun h68 => absurd h68 (by omega)) (fun h68 => ?_)
                      refine sf_vreturn rfl rfl ?_
                      refine sf_aload rfl ?_
                      refine sf_getr hI0 rfl rfl ?_
                      refine sf_geti hI0 rfl rfl (fun v69 lv69 uv69 ev69 => ?_)
                      refine sf_iconst sf_c40 (fun z70 ez70 => ?_)
                      refine sf_f2_ge (fun h71 => ?_) (fun h71 => ?_)
                      · refine sf_iconst sf_c0 (fun z72 ez72 => ?_)
                        refine sf_call1 rfl rfl rfl ?_
                        refine sf_sp (L := [(0, .inl (.int z72))]) rfl rfl ?_
                        refine sf_iload rfl ?_
                        refine sf_f1_eq (fun h73 => ?_) (fun h73 => absurd h73 (by omega))
                        refine sf_throw rfl rfl ?_
                        refine sf_xout rfl rfl ?_
                        refine sf_xhm rfl ?_
                        refine sf_xhh (L' := [(0, .inl (.ref 0)), (1, .inl (.int a_l1)), (2, .inl (.int a_l2)), (3, .inl (.int a_l3)), (4, .inl (.int a_l4)), (5, .inl (.ref 130))]) rfl rfl ?_
                        refine sf_iconst sf_c2 (fun z74 ez74 => ?_)
                        refine sf_ireturn rfl rfl ?_
                        exact hR _ _ hI0 hs0 (by omega) (by omega) (by first | (refine Or.inl ⟨by omega, ?_⟩; omega) | (refine Or.inr (Or.inl ⟨by omega, ?_⟩); omega) | (refine Or.inr (Or.inr ⟨by omega, ?_⟩); omega)) (by first | exact Or.inl ⟨by omega, rfl⟩ | exact Or.inr ⟨by omega, u6⟩) (by first | exact Or.inl ⟨by omega, rfl⟩ | exact Or.inr ⟨by omega, u7⟩) (by first | exact Or.inl ⟨by omega, rfl⟩ | exact Or.inr ⟨by omega, u8⟩) (by first | exact Or.inl ⟨by omega, rfl⟩ | exact Or.inr ⟨by omega, u9⟩)
                      · refine sf_iconst sf_c1 (fun z75 ez75 => ?_)
                        refine sf_call1 rfl rfl rfl ?_
                        refine sf_sp (L := [(0, .inl (.int z75))]) rfl rfl ?_
                        refine sf_iload rfl ?_
                        refine sf_f1_eq (fun h76 => absurd h76 (by omega)) (fun h76 => ?_)
                        refine sf_vreturn rfl rfl ?_
                        refine sf_aload rfl ?_
                        refine sf_getr hI0 rfl rfl ?_
                        refine sf_iload rfl ?_
                        refine sf_iload rfl ?_
                        refine sf_iload rfl ?_
                        refine sf_iload rfl ?_
                        refine sf_call5 rfl rfl rfl ?_
                        refine sf_rv hI0 rfl ?_
                        refine sf_sp (L := [(0, .inl (.ref 1)), (1, .inl (.int a_l1)), (2, .inl (.int a_l2)), (3, .inl (.int a_l3)), (4, .inl (.int a_l4))]) rfl rfl ?_
                        refine sf_aload rfl ?_
                        refine sf_geti hI0 rfl rfl (fun v77 lv77 uv77 ev77 => ?_)
                        refine sf_istore (L' := [(0, .inl (.ref 1)), (1, .inl (.int a_l1)), (2, .inl (.int a_l2)), (3, .inl (.int a_l3)), (4, .inl (.int a_l4))]) rfl ?_
                        refine sf_aload rfl ?_
                        refine sf_getr hI0 rfl rfl ?_
                        refine sf_iload rfl ?_
                        refine sf_iload rfl ?_
                        refine sf_iast hI0 hs0 rfl (by omega) (by omega) rfl rfl (fun w78 Iw78 sw78 kw78 uw78 => ?_)
                        have c79 := sf_mf kw78 (p := 1) (j := 5) rfl
                        have c80 := sf_ma kw78 (p := 7) rfl
                        have c81 := sf_ma kw78 (p := 8) rfl
                        have c82 := sf_ma kw78 (p := 9) rfl
                        clear kw78
                        have u6 := uw78
                        rw [show v77.toInt = (sf_f w0 1 5).toInt by omega] at u6
                        skip
                        refine sf_aload rfl ?_
                        refine sf_getr Iw78 rfl rfl ?_
                        refine sf_iload rfl ?_
                        refine sf_iload rfl ?_
                        refine sf_iast Iw78 sw78 rfl (by omega) (by omega) rfl rfl (fun w83 Iw83 sw83 kw83 uw83 => ?_)
                        have c84 := sf_mf kw83 (p := 1) (j := 5) rfl
                        have c85 := sf_ma kw83 (p := 6) rfl
                        have c86 := sf_ma kw83 (p := 8) rfl
                        have c87 := sf_ma kw83 (p := 9) rfl
                        clear kw83
                        have u7 := uw83
                        rw [show v77.toInt = (sf_f w0 1 5).toInt by omega] at u7
                        rw [c80] at u7
                        refine sf_aload rfl ?_
                        refine sf_getr Iw83 rfl rfl ?_
                        refine sf_iload rfl ?_
                        refine sf_iload rfl ?_
                        refine sf_iast Iw83 sw83 rfl (by omega) (by omega) rfl rfl (fun w88 Iw88 sw88 kw88 uw88 => ?_)
                        have c89 := sf_mf kw88 (p := 1) (j := 5) rfl
                        have c90 := sf_ma kw88 (p := 6) rfl
                        have c91 := sf_ma kw88 (p := 7) rfl
                        have c92 := sf_ma kw88 (p := 9) rfl
                        clear kw88
                        have u8 := uw88
                        rw [show v77.toInt = (sf_f w0 1 5).toInt by omega] at u8
                        rw [c86, c81] at u8
                        refine sf_aload rfl ?_
                        refine sf_getr Iw88 rfl rfl ?_
                        refine sf_iload rfl ?_
                        refine sf_iload rfl ?_
                        refine sf_iast Iw88 sw88 rfl (by omega) (sf_bd _) rfl rfl (fun w93 Iw93 sw93 kw93 uw93 => ?_)
                        have c94 := sf_mf kw93 (p := 1) (j := 5) rfl
                        have c95 := sf_ma kw93 (p := 6) rfl
                        have c96 := sf_ma kw93 (p := 7) rfl
                        have c97 := sf_ma kw93 (p := 8) rfl
                        clear kw93
                        have u9 := uw93
                        rw [show v77.toInt = (sf_f w0 1 5).toInt by omega] at u9
                        rw [c92, c87, c82] at u9
                        refine sf_aload rfl ?_
                        refine sf_dup rfl ?_
                        refine sf_geti Iw93 rfl rfl (fun v98 lv98 uv98 ev98 => ?_)
                        rw [c94, c89, c84, c79] at ev98
                        refine sf_iconst sf_c1 (fun z99 ez99 => ?_)
                        refine sf_iadd (by omega) (fun v100 ev100 => ?_)
                        refine sf_puti Iw93 sw93 rfl rfl (by omega) rfl rfl rfl (fun w101 Iw101 sw101 kw101 uw101 => ?_)
                        have c102 := sf_ma kw101 (p := 6) rfl
                        have c103 := sf_ma kw101 (p := 7) rfl
                        have c104 := sf_ma kw101 (p := 8) rfl
                        have c105 := sf_ma kw101 (p := 9) rfl
                        clear kw101
                        refine sf_iload rfl ?_
                        refine sf_ireturn rfl rfl ?_
                        refine sf_ireturn rfl rfl ?_
                        refine sf_i2l (fun v106 ev106 => ?_)
                        refine sf_last Iw101 sw101 rfl (by omega) rfl rfl (fun w107 Iw107 sw107 kw107 uw107 => ?_)
                        have c108 := sf_mf kw107 (p := 1) (j := 5) rfl
                        have c109 := sf_ma kw107 (p := 6) rfl
                        have c110 := sf_ma kw107 (p := 7) rfl
                        have c111 := sf_ma kw107 (p := 8) rfl
                        have c112 := sf_ma kw107 (p := 9) rfl
                        clear kw107
                        have go : (sf_l w107 130 0).toInt = v106.toInt := by rw [uw107, show z1.toInt.toNat = 0 by omega]; unfold vp_updL; rw [if_pos rfl]
                        refine sf_iconst sf_c0 (fun z113 ez113 => ?_)
                        refine sf_ireturn rfl rfl ?_
                        exact hR _ _ Iw107 sw107 (by omega) (by omega) (by rw [c108, uw101]; first | (refine Or.inl ⟨by omega, ?_⟩; omega) | (refine Or.inr (Or.inl ⟨by omega, ?_⟩); omega) | (refine Or.inr (Or.inr ⟨by omega, ?_⟩); omega)) (by rw [c109, c102, c95, c90, c85]; first | exact Or.inl ⟨by omega, rfl⟩ | exact Or.inr ⟨by omega, u6⟩) (by rw [c110, c103, c96, c91]; first | exact Or.inl ⟨by omega, rfl⟩ | exact Or.inr ⟨by omega, u7⟩) (by rw [c111, c104, c97]; first | exact Or.inl ⟨by omega, rfl⟩ | exact Or.inr ⟨by omega, u8⟩) (by rw [c112, c105]; first | exact Or.inl ⟨by omega, rfl⟩ | exact Or.inr ⟨by omega, u9⟩)
                  · refine sf_iconst sf_c1 (fun z114 ez114 => ?_)
                    refine sf_call1 rfl rfl rfl ?_
                    refine sf_sp (L := [(0, .inl (.int z114))]) rfl rfl ?_
                    refine sf_iload rfl ?_
                    refine sf_f1_eq (fun h115 => absurd h115 (by omega)) (fun h115 => ?_)
                    refine sf_vreturn rfl rfl ?_
                    refine sf_aload rfl ?_
                    refine sf_getr hI0 rfl rfl ?_
                    refine sf_geti hI0 rfl rfl (fun v116 lv116 uv116 ev116 => ?_)
                    refine sf_iconst sf_c40 (fun z117 ez117 => ?_)
                    refine sf_f2_ge (fun h118 => ?_) (fun h118 => ?_)
                    · refine sf_iconst sf_c0 (fun z119 ez119 => ?_)
                      refine sf_call1 rfl rfl rfl ?_
                      refine sf_sp (L := [(0, .inl (.int z119))]) rfl rfl ?_
                      refine sf_iload rfl ?_
                      refine sf_f1_eq (fun h120 => ?_) (fun h120 => absurd h120 (by omega))
                      refine sf_throw rfl rfl ?_
                      refine sf_xout rfl rfl ?_
                      refine sf_xhm rfl ?_
                      refine sf_xhh (L' := [(0, .inl (.ref 0)), (1, .inl (.int a_l1)), (2, .inl (.int a_l2)), (3, .inl (.int a_l3)), (4, .inl (.int a_l4)), (5, .inl (.ref 130))]) rfl rfl ?_
                      refine sf_iconst sf_c2 (fun z121 ez121 => ?_)
                      refine sf_ireturn rfl rfl ?_
                      exact hR _ _ hI0 hs0 (by omega) (by omega) (by first | (refine Or.inl ⟨by omega, ?_⟩; omega) | (refine Or.inr (Or.inl ⟨by omega, ?_⟩); omega) | (refine Or.inr (Or.inr ⟨by omega, ?_⟩); omega)) (by first | exact Or.inl ⟨by omega, rfl⟩ | exact Or.inr ⟨by omega, u6⟩) (by first | exact Or.inl ⟨by omega, rfl⟩ | exact Or.inr ⟨by omega, u7⟩) (by first | exact Or.inl ⟨by omega, rfl⟩ | exact Or.inr ⟨by omega, u8⟩) (by first | exact Or.inl ⟨by omega, rfl⟩ | exact Or.inr ⟨by omega, u9⟩)
                    · refine sf_iconst sf_c1 (fun z122 ez122 => ?_)
                      refine sf_call1 rfl rfl rfl ?_
                      refine sf_sp (L := [(0, .inl (.int z122))]) rfl rfl ?_
                      refine sf_iload rfl ?_
                      refine sf_f1_eq (fun h123 => absurd h123 (by omega)) (fun h123 => ?_)
                      refine sf_vreturn rfl rfl ?_
                      refine sf_aload rfl ?_
                      refine sf_getr hI0 rfl rfl ?_
                      refine sf_iload rfl ?_
                      refine sf_iload rfl ?_
                      refine sf_iload rfl ?_
                      refine sf_iload rfl ?_
                      refine sf_call5 rfl rfl rfl ?_
                      refine sf_rv hI0 rfl ?_
                      refine sf_sp (L := [(0, .inl (.ref 1)), (1, .inl (.int a_l1)), (2, .inl (.int a_l2)), (3, .inl (.int a_l3)), (4, .inl (.int a_l4))]) rfl rfl ?_
                      refine sf_aload rfl ?_
                      refine sf_geti hI0 rfl rfl (fun v124 lv124 uv124 ev124 => ?_)
                      refine sf_istore (L' := [(0, .inl (.ref 1)), (1, .inl (.int a_l1)), (2, .inl (.int a_l2)), (3, .inl (.int a_l3)), (4, .inl (.int a_l4))]) rfl ?_
                      refine sf_aload rfl ?_
                      refine sf_getr hI0 rfl rfl ?_
                      refine sf_iload rfl ?_
                      refine sf_iload rfl ?_
                      refine sf_iast hI0 hs0 rfl (by omega) (by omega) rfl rfl (fun w125 Iw125 sw125 kw125 uw125 => ?_)
                      have c126 := sf_mf kw125 (p := 1) (j := 5) rfl
                      have c127 := sf_ma kw125 (p := 7) rfl
                      have c128 := sf_ma kw125 (p := 8) rfl
                      have c129 := sf_ma kw125 (p := 9) rfl
                      clear kw125
                      have u6 := uw125
                      rw [show v124.toInt = (sf_f w0 1 5).toInt by omega] at u6
                      skip
                      refine sf_aload rfl ?_
                      refine sf_getr Iw125 rfl rfl ?_
                      refine sf_iload rfl ?_
                      refine sf_iload rfl ?_
                      refine sf_iast Iw125 sw125 rfl (by omega) (by omega) rfl rfl (fun w130 Iw130 sw130 kw130 uw130 => ?_)
                      have c131 := sf_mf kw130 (p := 1) (j := 5) rfl
                      have c132 := sf_ma kw130 (p := 6) rfl
                      have c133 := sf_ma kw130 (p := 8) rfl
                      have c134 := sf_ma kw130 (p := 9) rfl
                      clear kw130
                      have u7 := uw130
                      rw [show v124.toInt = (sf_f w0 1 5).toInt by omega] at u7
                      rw [c127] at u7
                      refine sf_aload rfl ?_
                      refine sf_getr Iw130 rfl rfl ?_
                      refine sf_iload rfl ?_
                      refine sf_iload rfl ?_
                      refine sf_iast Iw130 sw130 rfl (by omega) (by omega) rfl rfl (fun w135 Iw135 sw135 kw135 uw135 => ?_)
                      have c136 := sf_mf kw135 (p := 1) (j := 5) rfl
                      have c137 := sf_ma kw135 (p := 6) rfl
                      have c138 := sf_ma kw135 (p := 7) rfl
                      have c139 := sf_ma kw135 (p := 9) rfl
                      clear kw135
                      have u8 := uw135
                      rw [show v124.toInt = (sf_f w0 1 5).toInt by omega] at u8
                      rw [c133, c128] at u8
                      refine sf_aload rfl ?_
                      refine sf_getr Iw135 rfl rfl ?_
                      refine sf_iload rfl ?_
                      refine sf_iload rfl ?_
                      refine sf_iast Iw135 sw135 rfl (by omega) (sf_bd _) rfl rfl (fun w140 Iw140 sw140 kw140 uw140 => ?_)
                      have c141 := sf_mf kw140 (p := 1) (j := 5) rfl
                      have c142 := sf_ma kw140 (p := 6) rfl
                      have c143 := sf_ma kw140 (p := 7) rfl
                      have c144 := sf_ma kw140 (p := 8) rfl
                      clear kw140
                      have u9 := uw140
                      rw [show v124.toInt = (sf_f w0 1 5).toInt by omega] at u9
                      rw [c139, c134, c129] at u9
                      refine sf_aload rfl ?_
                      refine sf_dup rfl ?_
                      refine sf_geti Iw140 rfl rfl (fun v145 lv145 uv145 ev145 => ?_)
                      rw [c141, c136, c131, c126] at ev145
                      refine sf_iconst sf_c1 (fun z146 ez146 => ?_)
                      refine sf_iadd (by omega) (fun v147 ev147 => ?_)
                      refine sf_puti Iw140 sw140 rfl rfl (by omega) rfl rfl rfl (fun w148 Iw148 sw148 kw148 uw148 => ?_)
                      have c149 := sf_ma kw148 (p := 6) rfl
                      have c150 := sf_ma kw148 (p := 7) rfl
                      have c151 := sf_ma kw148 (p := 8) rfl
                      have c152 := sf_ma kw148 (p := 9) rfl
                      clear kw148
                      refine sf_iload rfl ?_
                      refine sf_ireturn rfl rfl ?_
                      refine sf_ireturn rfl rfl ?_
                      refine sf_i2l (fun v153 ev153 => ?_)
                      refine sf_last Iw148 sw148 rfl (by omega) rfl rfl (fun w154 Iw154 sw154 kw154 uw154 => ?_)
                      have c155 := sf_mf kw154 (p := 1) (j := 5) rfl
                      have c156 := sf_ma kw154 (p := 6) rfl
                      have c157 := sf_ma kw154 (p := 7) rfl
                      have c158 := sf_ma kw154 (p := 8) rfl
                      have c159 := sf_ma kw154 (p := 9) rfl
                      clear kw154
                      have go : (sf_l w154 130 0).toInt = v153.toInt := by rw [uw154, show z1.toInt.toNat = 0 by omega]; unfold vp_updL; rw [if_pos rfl]
                      refine sf_iconst sf_c0 (fun z160 ez160 => ?_)
                      refine sf_ireturn rfl rfl ?_
                      exact hR _ _ Iw154 sw154 (by omega) (by omega) (by rw [c155, uw148]; first | (refine Or.inl ⟨by omega, ?_⟩; omega) | (refine Or.inr (Or.inl ⟨by omega, ?_⟩); omega) | (refine Or.inr (Or.inr ⟨by omega, ?_⟩); omega)) (by rw [c156, c149, c142, c137, c132]; first | exact Or.inl ⟨by omega, rfl⟩ | exact Or.inr ⟨by omega, u6⟩) (by rw [c157, c150, c143, c138]; first | exact Or.inl ⟨by omega, rfl⟩ | exact Or.inr ⟨by omega, u7⟩) (by rw [c158, c151, c144]; first | exact Or.inl ⟨by omega, rfl⟩ | exact Or.inr ⟨by omega, u8⟩) (by rw [c159, c152]; first | exact Or.inl ⟨by omega, rfl⟩ | exact Or.inr ⟨by omega, u9⟩)
def sm_W_fact_0_130 : List Nat := [10, 130]
set_option maxRecDepth 100000 in
set_option maxHeartbeats 4000000 in
theorem sc_W_fact_0_130 {w0 : wq_W} (hI0 : sf_I w0) {rt : Option wq_V → wq_W → Prop} {xt : Nat → wq_W → Prop} {a_l1 : Int32} {a_l2 : Int32} {a_l3 : Int32}  (hR : ∀ (r : Int32) (w : wq_W), sf_I w → sf_m sm_W_fact_0_130 w0 w → 0 ≤ r.toInt → r.toInt ≤ 1 → (((r.toInt = 0 ∧ (0 ≤ a_l1.toInt ∧ a_l1.toInt ≤ 15 ∧ 0 ≤ a_l2.toInt ∧ a_l2.toInt ≤ 7 ∧ 0 ≤ a_l3.toInt ∧ a_l3.toInt ≤ 1000) ∧ (sf_l w 130 0).toInt = (sf_g w0 10 a_l1.toInt.toNat a_l2.toInt.toNat).toInt) ∨ (r.toInt = 1 ∧ ¬ (0 ≤ a_l1.toInt ∧ a_l1.toInt ≤ 15 ∧ 0 ≤ a_l2.toInt ∧ a_l2.toInt ≤ 7 ∧ 0 ≤ a_l3.toInt ∧ a_l3.toInt ≤ 1000)))) → (((r.toInt ≠ 0 ∧ sf_g w 10 = sf_g w0 10) ∨ (r.toInt = 0 ∧ sf_g w 10 = wq_up2 (sf_g w0 10) a_l1.toInt.toNat a_l2.toInt.toNat a_l3 ∧ 0 ≤ a_l1.toInt ∧ a_l1.toInt ≤ 15 ∧ 0 ≤ a_l2.toInt ∧ a_l2.toInt ≤ 7 ∧ 0 ≤ a_l3.toInt ∧ a_l3.toInt ≤ 1000))) → rt (some (.inl (.int r))) w) : ks_W_fact [.inl (.ref 0), .inl (.int a_l1), .inl (.int a_l2), .inl (.int a_l3), .inl (.ref 130)] w0 rt xt := by
  have hs0 : sf_m sm_W_fact_0_130 w0 w0 := sf_m0
  refine sf_sp (L := [(0, .inl (.ref 0)), (1, .inl (.int a_l1)), (2, .inl (.int a_l2)), (3, .inl (.int a_l3)), (4, .inl (.ref 130))]) rfl rfl ?_
  refine sf_aload rfl ?_
  refine sf_iconst sf_c0 (fun z1 ez1 => ?_)
  refine sf_aload rfl ?_
  refine sf_iload rfl ?_
  refine sf_iload rfl ?_
  refine sf_iload rfl ?_
  refine sf_call4 rfl rfl rfl ?_
  refine sf_rv hI0 rfl ?_
  refine sf_sp (L := [(0, .inl (.ref 0)), (1, .inl (.int a_l1)), (2, .inl (.int a_l2)), (3, .inl (.int a_l3))]) rfl rfl ?_
  refine sf_iload rfl ?_
  refine sf_call1 rfl rfl rfl ?_
  refine sf_sp (L := [(0, .inl (.int a_l1))]) rfl rfl ?_
  refine sf_iload rfl ?_
  refine sf_iconst sf_c16 (fun z2 ez2 => ?_)
  refine sf_call2 rfl rfl rfl ?_
  refine sf_sp (L := [(0, .inl (.int a_l1)), (1, .inl (.int z2))]) rfl rfl ?_
  refine sf_iconst sf_c0 (fun z3 ez3 => ?_)
  refine sf_iload rfl ?_
  refine sf_f2_gt (fun h4 => ?_) (fun h4 => ?_)
  · refine sf_iconst sf_c0 (fun z5 ez5 => ?_)
    refine sf_zreturn (by omega) rfl rfl ?_
    refine sf_zreturn (by omega) rfl rfl ?_
    refine sf_f1_eq (fun h6 => ?_) (fun h6 => absurd h6 (by omega))
    refine sf_iconst sf_c0 (fun z7 ez7 => ?_)
    refine sf_call1 rfl rfl rfl ?_
    refine sf_sp (L := [(0, .inl (.int z7))]) rfl rfl ?_
    refine sf_iload rfl ?_
    refine sf_f1_eq (fun h8 => ?_) (fun h8 => absurd h8 (by omega))
    refine sf_throw rfl rfl ?_
    refine sf_xout rfl rfl ?_
    refine sf_xhh (L' := [(0, .inl (.ref 0)), (1, .inl (.int a_l1)), (2, .inl (.int a_l2)), (3, .inl (.int a_l3)), (4, .inl (.ref 130))]) rfl rfl ?_
    refine sf_iconst sf_c1 (fun z9 ez9 => ?_)
    refine sf_ireturn rfl rfl ?_
    exact hR _ _ hI0 hs0 (by omega) (by omega) (by first | (refine Or.inl ⟨by omega, ?_⟩; omega) | (refine Or.inr ⟨by omega, ?_⟩; omega)) (by first | exact Or.inl ⟨by omega, rfl⟩ | exact Or.inr ⟨by omega, gg, by omega⟩)
  · refine sf_iload rfl ?_
    refine sf_iload rfl ?_
    refine sf_f2_ge (fun h10 => ?_) (fun h10 => ?_)
    · refine sf_iconst sf_c0 (fun z11 ez11 => ?_)
      refine sf_zreturn (by omega) rfl rfl ?_
      refine sf_zreturn (by omega) rfl rfl ?_
      refine sf_f1_eq (fun h12 => ?_) (fun h12 => absurd h12 (by omega))
      refine sf_iconst sf_c0 (fun z13 ez13 => ?_)
      refine sf_call1 rfl rfl rfl ?_
      refine sf_sp (L := [(0, .inl (.int z13))]) rfl rfl ?_
      refine sf_iload rfl ?_
      refine sf_f1_eq (fun h14 => ?_) (fun h14 => absurd h14 (by omega))
      refine sf_throw rfl rfl ?_
      refine sf_xout rfl rfl ?_
      refine sf_xhh (L' := [(0, .inl (.ref 0)), (1, .inl (.int a_l1)), (2, .inl (.int a_l2)), (3, .inl (.int a_l3)), (4, .inl (.ref 130))]) rfl rfl ?_
      refine sf_iconst sf_c1 (fun z15 ez15 => ?_)
      refine sf_ireturn rfl rfl ?_
      exact hR _ _ hI0 hs0 (by omega) (by omega) (by first | (refine Or.inl ⟨by omega, ?_⟩; omega) | (refine Or.inr ⟨by omega, ?_⟩; omega)) (by first | exact Or.inl ⟨by omega, rfl⟩ | exact Or.inr ⟨by omega, gg, by omega⟩)
    · refine sf_iconst sf_c1 (fun z16 ez16 => ?_)
      refine sf_zreturn (by omega) rfl rfl ?_
      refine sf_zreturn (by omega) rfl rfl ?_
      refine sf_f1_eq (fun h17 => absurd h17 (by omega)) (fun h17 => ?_)
      refine sf_iload rfl ?_
      refine sf_call1 rfl rfl rfl ?_
      refine sf_sp (L := [(0, .inl (.int a_l2))]) rfl rfl ?_
      refine sf_iload rfl ?_
      refine sf_iconst sf_c8 (fun z18 ez18 => ?_)
      refine sf_call2 rfl rfl rfl ?_
      refine sf_sp (L := [(0, .inl (.int a_l2)), (1, .inl (.int z18))]) rfl rfl ?_
      refine sf_iconst sf_c0 (fun z19 ez19 => ?_)
      refine sf_iload rfl ?_
      refine sf_f2_gt (fun h20 => ?_) (fun h20 => ?_)
      · refine sf_iconst sf_c0 (fun z21 ez21 => ?_)
        refine sf_zreturn (by omega) rfl rfl ?_
        refine sf_zreturn (by omega) rfl rfl ?_
        refine sf_f1_eq (fun h22 => ?_) (fun h22 => absurd h22 (by omega))
        refine sf_iconst sf_c0 (fun z23 ez23 => ?_)
        refine sf_call1 rfl rfl rfl ?_
        refine sf_sp (L := [(0, .inl (.int z23))]) rfl rfl ?_
        refine sf_iload rfl ?_
        refine sf_f1_eq (fun h24 => ?_) (fun h24 => absurd h24 (by omega))
        refine sf_throw rfl rfl ?_
        refine sf_xout rfl rfl ?_
        refine sf_xhh (L' := [(0, .inl (.ref 0)), (1, .inl (.int a_l1)), (2, .inl (.int a_l2)), (3, .inl (.int a_l3)), (4, .inl (.ref 130))]) rfl rfl ?_
        refine sf_iconst sf_c1 (fun z25 ez25 => ?_)
        refine sf_ireturn rfl rfl ?_
        exact hR _ _ hI0 hs0 (by omega) (by omega) (by first | (refine Or.inl ⟨by omega, ?_⟩; omega) | (refine Or.inr ⟨by omega, ?_⟩; omega)) (by first | exact Or.inl ⟨by omega, rfl⟩ | exact Or.inr ⟨by omega, gg, by omega⟩)
      · refine sf_iload rfl ?_
        refine sf_iload rfl ?_
        refine sf_f2_ge (fun h26 => ?_) (fun h26 => ?_)
        · refine sf_iconst sf_c0 (fun z27 ez27 => ?_)
          refine sf_zreturn (by omega) rfl rfl ?_
          refine sf_zreturn (by omega) rfl rfl ?_
          refine sf_f1_eq (fun h28 => ?_) (fun h28 => absurd h28 (by omega))
          refine sf_iconst sf_c0 (fun z29 ez29 => ?_)
          refine sf_call1 rfl rfl rfl ?_
          refine sf_sp (L := [(0, .inl (.int z29))]) rfl rfl ?_
          refine sf_iload rfl ?_
          refine sf_f1_eq (fun h30 => ?_) (fun h30 => absurd h30 (by omega))
          refine sf_throw rfl rfl ?_
          refine sf_xout rfl rfl ?_
          refine sf_xhh (L' := [(0, .inl (.ref 0)), (1, .inl (.int a_l1)), (2, .inl (.int a_l2)), (3, .inl (.int a_l3)), (4, .inl (.ref 130))]) rfl rfl ?_
          refine sf_iconst sf_c1 (fun z31 ez31 => ?_)
          refine sf_ireturn rfl rfl ?_
          exact hR _ _ hI0 hs0 (by omega) (by omega) (by first | (refine Or.inl ⟨by omega, ?_⟩; omega) | (refine Or.inr ⟨by omega, ?_⟩; omega)) (by first | exact Or.inl ⟨by omega, rfl⟩ | exact Or.inr ⟨by omega, gg, by omega⟩)
        · refine sf_iconst sf_c1 (fun z32 ez32 => ?_)
          refine sf_zreturn (by omega) rfl rfl ?_
          refine sf_zreturn (by omega) rfl rfl ?_
          refine sf_f1_eq (fun h33 => absurd h33 (by omega)) (fun h33 => ?_)
          refine sf_iconst sf_c1 (fun z34 ez34 => ?_)
          refine sf_call1 rfl rfl rfl ?_
          refine sf_sp (L := [(0, .inl (.int z34))]) rfl rfl ?_
          refine sf_iload rfl ?_
          refine sf_f1_eq (fun h35 => absurd h35 (by omega)) (fun h35 => ?_)
          refine sf_vreturn rfl rfl ?_
          refine sf_iload rfl ?_
          refine sf_iconst sf_c0 (fun z36 ez36 => ?_)
          refine sf_iconst sf_c1000 (fun z37 ez37 => ?_)
          refine sf_call3 rfl rfl rfl ?_
          refine sf_sp (L := [(0, .inl (.int a_l3)), (1, .inl (.int z36)), (2, .inl (.int z37))]) rfl rfl ?_
          refine sf_iload rfl ?_
          refine sf_iload rfl ?_
          refine sf_f2_gt (fun h38 => ?_) (fun h38 => ?_)
          · refine sf_iconst sf_c0 (fun z39 ez39 => ?_)
            refine sf_zreturn (by omega) rfl rfl ?_
            refine sf_call1 rfl rfl rfl ?_
            refine sf_sp (L := [(0, .inl (.int z39))]) rfl rfl ?_
            refine sf_iload rfl ?_
            refine sf_f1_eq (fun h40 => ?_) (fun h40 => absurd h40 (by omega))
            refine sf_throw rfl rfl ?_
            refine sf_xout rfl rfl ?_
            refine sf_xhh (L' := [(0, .inl (.ref 0)), (1, .inl (.int a_l1)), (2, .inl (.int a_l2)), (3, .inl (.int a_l3)), (4, .inl (.ref 130))]) rfl rfl ?_
            refine sf_iconst sf_c1 (fun z41 ez41 => ?_)
            refine sf_ireturn rfl rfl ?_
            exact hR _ _ hI0 hs0 (by omega) (by omega) (by first | (refine Or.inl ⟨by omega, ?_⟩; omega) | (refine Or.inr ⟨by omega, ?_⟩; omega)) (by first | exact Or.inl ⟨by omega, rfl⟩ | exact Or.inr ⟨by omega, gg, by omega⟩)
          · refine sf_iload rfl ?_
            refine sf_iload rfl ?_
            refine sf_f2_gt (fun h42 => ?_) (fun h42 => ?_)
            · refine sf_iconst sf_c0 (fun z43 ez43 => ?_)
              refine sf_zreturn (by omega) rfl rfl ?_
              refine sf_call1 rfl rfl rfl ?_
              refine sf_sp (L := [(0, .inl (.int z43))]) rfl rfl ?_
              refine sf_iload rfl ?_
              refine sf_f1_eq (fun h44 => ?_) (fun h44 => absurd h44 (by omega))
              refine sf_throw rfl rfl ?_
              refine sf_xout rfl rfl ?_
              refine sf_xhh (L' := [(0, .inl (.ref 0)), (1, .inl (.int a_l1)), (2, .inl (.int a_l2)), (3, .inl (.int a_l3)), (4, .inl (.ref 130))]) rfl rfl ?_
              refine sf_iconst sf_c1 (fun z45 ez45 => ?_)
              refine sf_ireturn rfl rfl ?_
              exact hR _ _ hI0 hs0 (by omega) (by omega) (by first | (refine Or.inl ⟨by omega, ?_⟩; omega) | (refine Or.inr ⟨by omega, ?_⟩; omega)) (by first | exact Or.inl ⟨by omega, rfl⟩ | exact Or.inr ⟨by omega, gg, by omega⟩)
            · refine sf_iconst sf_c1 (fun z46 ez46 => ?_)
              refine sf_zreturn (by omega) rfl rfl ?_
              refine sf_call1 rfl rfl rfl ?_
              refine sf_sp (L := [(0, .inl (.int z46))]) rfl rfl ?_
              refine sf_iload rfl ?_
              refine sf_f1_eq (fun h47 => absurd h47 (by omega)) (fun h47 => ?_)
              refine sf_vreturn rfl rfl ?_
              refine sf_aload rfl ?_
              refine sf_getr hI0 rfl rfl ?_
              refine sf_getr hI0 rfl rfl ?_
              refine sf_iload rfl ?_
              refine sf_aald hI0 rfl (by omega) ?_
              refine sf_iload rfl ?_
              refine sf_gald hI0 rfl (by omega) (by omega) (fun v48 lv48 uv48 ev48 => ?_)
              refine sf_istore (L' := [(0, .inl (.ref 0)), (1, .inl (.int a_l1)), (2, .inl (.int a_l2)), (3, .inl (.int a_l3))]) rfl ?_
              refine sf_aload rfl ?_
              refine sf_getr hI0 rfl rfl ?_
              refine sf_getr hI0 rfl rfl ?_
              refine sf_iload rfl ?_
              refine sf_aald hI0 rfl (by omega) ?_
              refine sf_iload rfl ?_
              refine sf_iload rfl ?_
              refine sf_gast hI0 hs0 rfl (by omega) (by omega) (by omega) rfl rfl (fun w49 Iw49 sw49 kw49 uw49 => ?_)
              clear kw49
              have gg := uw49
              refine sf_iload rfl ?_
              refine sf_ireturn rfl rfl ?_
              refine sf_i2l (fun v50 ev50 => ?_)
              refine sf_last Iw49 sw49 rfl (by omega) rfl rfl (fun w51 Iw51 sw51 kw51 uw51 => ?_)
              have c52 := sf_mg kw51 (p := 10) rfl
              clear kw51
              have go : (sf_l w51 130 0).toInt = v50.toInt := by rw [uw51, show z1.toInt.toNat = 0 by omega]; unfold vp_updL; rw [if_pos rfl]
              refine sf_iconst sf_c0 (fun z53 ez53 => ?_)
              refine sf_ireturn rfl rfl ?_
              exact hR _ _ Iw51 sw51 (by omega) (by omega) (by first | (refine Or.inl ⟨by omega, ?_⟩; omega) | (refine Or.inr ⟨by omega, ?_⟩; omega)) (by rw [c52]; first | exact Or.inl ⟨by omega, rfl⟩ | exact Or.inr ⟨by omega, gg, by omega⟩)
def sm_W_classify_0_130 : List Nat := [11, 12, 130]
set_option maxRecDepth 100000 in
set_option maxHeartbeats 4000000 in
theorem sc_W_classify_0_130 {w0 : wq_W} (hI0 : sf_I w0) {rt : Option wq_V → wq_W → Prop} {xt : Nat → wq_W → Prop} {a_l1 : Int32} (p0 : sf_J (sf_a w0 3) (sf_a w0 2) (sf_f w0 1 0).toInt) (hR : ∀ (r : Int32) (w : wq_W), sf_I w → sf_m sm_W_classify_0_130 w0 w → 0 ≤ r.toInt → r.toInt ≤ 1 → (((r.toInt = 0 ∧ (0 ≤ a_l1.toInt ∧ a_l1.toInt ≤ 15) ∧ (sf_l w 130 0).toInt = sj_B (sp_fi (sf_a w0 2) (sf_a w0 6) (sf_a w0 7) (sf_a w0 8) (sf_a w0 9) (sp_ag (sf_g w0 10) a_l1.toInt.toNat) (sf_f w0 1 5).toInt.toNat) (sp_d (sf_a w0 3)) (sp_sh (sf_a w0 2) (sf_a w0 6) (sf_a w0 7) (sf_a w0 8) (sp_ag (sf_g w0 10) a_l1.toInt.toNat) (sf_f w0 1 5).toInt.toNat) (sf_f w0 1 0).toInt.toNat) ∨ (r.toInt = 1 ∧ ¬ (0 ≤ a_l1.toInt ∧ a_l1.toInt ≤ 15)))) → rt (some (.inl (.int r))) w) : ks_W_classify [.inl (.ref 0), .inl (.int a_l1), .inl (.ref 130)] w0 rt xt := by
  have hs0 : sf_m sm_W_classify_0_130 w0 w0 := sf_m0
  refine sf_sp (L := [(0, .inl (.ref 0)), (1, .inl (.int a_l1)), (2, .inl (.ref 130))]) rfl rfl ?_
  refine sf_aload rfl ?_
  refine sf_iconst sf_c0 (fun z1 ez1 => ?_)
  refine sf_aload rfl ?_
  refine sf_iload rfl ?_
  refine sf_call2 rfl rfl rfl ?_
  refine sf_rv hI0 rfl ?_
  refine sf_sp (L := [(0, .inl (.ref 0)), (1, .inl (.int a_l1))]) rfl rfl ?_
  refine sf_iload rfl ?_
  refine sf_call1 rfl rfl rfl ?_
  refine sf_sp (L := [(0, .inl (.int a_l1))]) rfl rfl ?_
  refine sf_iload rfl ?_
  refine sf_iconst sf_c16 (fun z2 ez2 => ?_)
  refine sf_call2 rfl rfl rfl ?_
  refine sf_sp (L := [(0, .inl (.int a_l1)), (1, .inl (.int z2))]) rfl rfl ?_
  refine sf_iconst sf_c0 (fun z3 ez3 => ?_)
  refine sf_iload rfl ?_
  refine sf_f2_gt (fun h4 => ?_) (fun h4 => ?_)
  · refine sf_iconst sf_c0 (fun z5 ez5 => ?_)
    refine sf_zreturn (by omega) rfl rfl ?_
    refine sf_zreturn (by omega) rfl rfl ?_
    refine sf_call1 rfl rfl rfl ?_
    refine sf_sp (L := [(0, .inl (.int z5))]) rfl rfl ?_
    refine sf_iload rfl ?_
    refine sf_f1_eq (fun h6 => ?_) (fun h6 => absurd h6 (by omega))
    refine sf_throw rfl rfl ?_
    refine sf_xout rfl rfl ?_
    refine sf_xhh (L' := [(0, .inl (.ref 0)), (1, .inl (.int a_l1)), (2, .inl (.ref 130))]) rfl rfl ?_
    refine sf_iconst sf_c1 (fun z7 ez7 => ?_)
    refine sf_ireturn rfl rfl ?_
    exact hR _ _ hI0 hs0 (by omega) (by omega) (by first | (refine Or.inl ⟨by omega, ?_⟩; omega) | (refine Or.inr ⟨by omega, ?_⟩; omega))
  · refine sf_iload rfl ?_
    refine sf_iload rfl ?_
    refine sf_f2_ge (fun h8 => ?_) (fun h8 => ?_)
    · refine sf_iconst sf_c0 (fun z9 ez9 => ?_)
      refine sf_zreturn (by omega) rfl rfl ?_
      refine sf_zreturn (by omega) rfl rfl ?_
      refine sf_call1 rfl rfl rfl ?_
      refine sf_sp (L := [(0, .inl (.int z9))]) rfl rfl ?_
      refine sf_iload rfl ?_
      refine sf_f1_eq (fun h10 => ?_) (fun h10 => absurd h10 (by omega))
      refine sf_throw rfl rfl ?_
      refine sf_xout rfl rfl ?_
      refine sf_xhh (L' := [(0, .inl (.ref 0)), (1, .inl (.int a_l1)), (2, .inl (.ref 130))]) rfl rfl ?_
      refine sf_iconst sf_c1 (fun z11 ez11 => ?_)
      refine sf_ireturn rfl rfl ?_
      exact hR _ _ hI0 hs0 (by omega) (by omega) (by first | (refine Or.inl ⟨by omega, ?_⟩; omega) | (refine Or.inr ⟨by omega, ?_⟩; omega))
    · refine sf_iconst sf_c1 (fun z12 ez12 => ?_)
      refine sf_zreturn (by omega) rfl rfl ?_
      refine sf_zreturn (by omega) rfl rfl ?_
      refine sf_call1 rfl rfl rfl ?_
      refine sf_sp (L := [(0, .inl (.int z12))]) rfl rfl ?_
      refine sf_iload rfl ?_
      refine sf_f1_eq (fun h13 => absurd h13 (by omega)) (fun h13 => ?_)
      refine sf_vreturn rfl rfl ?_
      refine sf_aload rfl ?_
      refine sf_getr hI0 rfl rfl ?_
      refine sf_iload rfl ?_
      refine sf_call2 rfl rfl rfl ?_
      refine sf_rv hI0 rfl ?_
      refine sc_T_classOf_K hI0 (by omega) (by omega) (by exact p0) (fun v14 w15 Iw15 tw15 lv14 uv14 q16_0 => ?_)
      have s17 := sf_mt hs0 tw15 rfl
      refine sf_ireturn rfl rfl ?_
      refine sf_i2l (fun v18 ev18 => ?_)
      refine sf_last Iw15 s17 rfl (by omega) rfl rfl (fun w19 Iw19 sw19 kw19 uw19 => ?_)
      clear kw19
      have go : (sf_l w19 130 0).toInt = v18.toInt := by rw [uw19, show z1.toInt.toNat = 0 by omega]; unfold vp_updL; rw [if_pos rfl]
      refine sf_iconst sf_c0 (fun z20 ez20 => ?_)
      refine sf_ireturn rfl rfl ?_
      exact hR _ _ Iw19 sw19 (by omega) (by omega) (by first | (refine Or.inl ⟨by omega, ?_⟩; omega) | (refine Or.inr ⟨by omega, ?_⟩; omega))
def sm_W_rate_0_130 : List Nat := [13, 14, 15, 16, 17, 18, 19, 20, 130, 2301]
set_option maxRecDepth 100000 in
set_option maxHeartbeats 4000000 in
theorem sc_W_rate_0_130 {w0 : wq_W} (hI0 : sf_I w0) {rt : Option wq_V → wq_W → Prop} {xt : Nat → wq_W → Prop} {a_l1 : Int32} {a_l2 : Int32} {a_l3 : Int32} {a_l4 : Int32} {a_l5 : Int32} {a_l6 : Int32} {a_l7 : Int32}  (hR : ∀ (r : Int32) (w : wq_W), sf_I w → sf_m sm_W_rate_0_130 w0 w → 0 ≤ r.toInt → r.toInt ≤ 2 → (((r.toInt = 0 ∧ (0 ≤ a_l1.toInt ∧ a_l1.toInt < (sf_f w0 1 0).toInt ∧ -1 ≤ a_l2.toInt ∧ a_l2.toInt ≤ 7 ∧ 0 ≤ a_l3.toInt ∧ a_l3.toInt ≤ 3 ∧ 0 ≤ a_l4.toInt ∧ a_l4.toInt ≤ 10000 ∧ 0 ≤ a_l5.toInt ∧ a_l5.toInt ≤ 10000 ∧ 0 ≤ a_l6.toInt ∧ a_l6.toInt ≤ a_l7.toInt ∧ a_l7.toInt ≤ 9999) ∧ ((sf_f w0 13 1).toInt < 40) ∧ (sf_f w 13 1).toInt = (sf_f w0 13 1).toInt + 1 ∧ (sf_l w 130 0).toInt = (sf_f w0 13 1).toInt) ∨ (r.toInt = 1 ∧ ¬ (0 ≤ a_l1.toInt ∧ a_l1.toInt < (sf_f w0 1 0).toInt ∧ -1 ≤ a_l2.toInt ∧ a_l2.toInt ≤ 7 ∧ 0 ≤ a_l3.toInt ∧ a_l3.toInt ≤ 3 ∧ 0 ≤ a_l4.toInt ∧ a_l4.toInt ≤ 10000 ∧ 0 ≤ a_l5.toInt ∧ a_l5.toInt ≤ 10000 ∧ 0 ≤ a_l6.toInt ∧ a_l6.toInt ≤ a_l7.toInt ∧ a_l7.toInt ≤ 9999) ∧ (sf_f w 13 1).toInt = (sf_f w0 13 1).toInt) ∨ (r.toInt = 2 ∧ (0 ≤ a_l1.toInt ∧ a_l1.toInt < (sf_f w0 1 0).toInt ∧ -1 ≤ a_l2.toInt ∧ a_l2.toInt ≤ 7 ∧ 0 ≤ a_l3.toInt ∧ a_l3.toInt ≤ 3 ∧ 0 ≤ a_l4.toInt ∧ a_l4.toInt ≤ 10000 ∧ 0 ≤ a_l5.toInt ∧ a_l5.toInt ≤ 10000 ∧ 0 ≤ a_l6.toInt ∧ a_l6.toInt ≤ a_l7.toInt ∧ a_l7.toInt ≤ 9999) ∧ ¬ ((sf_f w0 13 1).toInt < 40) ∧ (sf_f w 13 1).toInt = (sf_f w0 13 1).toInt))) → (sf_U (sf_a w0 14) (sf_a w 14) (sf_f w0 13 1).toInt r.toInt a_l1) → (sf_U (sf_a w0 15) (sf_a w 15) (sf_f w0 13 1).toInt r.toInt a_l2) → (sf_U (sf_a w0 16) (sf_a w 16) (sf_f w0 13 1).toInt r.toInt a_l3) → (sf_U (sf_a w0 17) (sf_a w 17) (sf_f w0 13 1).toInt r.toInt a_l4) → (sf_U (sf_a w0 18) (sf_a w 18) (sf_f w0 13 1).toInt r.toInt a_l5) → (sf_U (sf_a w0 19) (sf_a w 19) (sf_f w0 13 1).toInt r.toInt a_l6) → (sf_U (sf_a w0 20) (sf_a w 20) (sf_f w0 13 1).toInt r.toInt a_l7) → rt (some (.inl (.int r))) w) : ks_W_rate [.inl (.ref 0), .inl (.int a_l1), .inl (.int a_l2), .inl (.int a_l3), .inl (.int a_l4), .inl (.int a_l5), .inl (.int a_l6), .inl (.int a_l7), .inl (.ref 130)] w0 rt xt := by
  have hs0 : sf_m sm_W_rate_0_130 w0 w0 := sf_m0
  refine sf_sp (L := [(0, .inl (.ref 0)), (1, .inl (.int a_l1)), (2, .inl (.int a_l2)), (3, .inl (.int a_l3)), (4, .inl (.int a_l4)), (5, .inl (.int a_l5)), (6, .inl (.int a_l6)), (7, .inl (.int a_l7)), (8, .inl (.ref 130))]) rfl rfl ?_
  refine sf_aload rfl ?_
  refine sf_iconst sf_c0 (fun z1 ez1 => ?_)
  refine sf_aload rfl ?_
  refine sf_iload rfl ?_
  refine sf_iload rfl ?_
  refine sf_iload rfl ?_
  refine sf_iload rfl ?_
  refine sf_iload rfl ?_
  refine sf_iload rfl ?_
  refine sf_iload rfl ?_
  refine sf_call8 rfl rfl rfl ?_
  refine sf_rv hI0 rfl ?_
  refine sf_sp (L := [(0, .inl (.ref 0)), (1, .inl (.int a_l1)), (2, .inl (.int a_l2)), (3, .inl (.int a_l3)), (4, .inl (.int a_l4)), (5, .inl (.int a_l5)), (6, .inl (.int a_l6)), (7, .inl (.int a_l7))]) rfl rfl ?_
  refine sf_aload rfl ?_
  refine sf_iload rfl ?_
  refine sf_call2 rfl rfl rfl ?_
  refine sf_rv hI0 rfl ?_
  refine sf_sp (L := [(0, .inl (.ref 0)), (1, .inl (.int a_l1))]) rfl rfl ?_
  refine sf_iload rfl ?_
  refine sf_aload rfl ?_
  refine sf_getr hI0 rfl rfl ?_
  refine sf_geti hI0 rfl rfl (fun v2 lv2 uv2 ev2 => ?_)
  refine sf_call2 rfl rfl rfl ?_
  refine sf_sp (L := [(0, .inl (.int a_l1)), (1, .inl (.int v2))]) rfl rfl ?_
  refine sf_iconst sf_c0 (fun z3 ez3 => ?_)
  refine sf_iload rfl ?_
  refine sf_f2_gt (fun h4 => ?_) (fun h4 => ?_)
  · refine sf_iconst sf_c0 (fun z5 ez5 => ?_)
    refine sf_zreturn (by omega) rfl rfl ?_
    refine sf_zreturn (by omega) rfl rfl ?_
    refine sf_f1_eq (fun h6 => ?_) (fun h6 => absurd h6 (by omega))
    refine sf_iconst sf_c0 (fun z7 ez7 => ?_)
    refine sf_call1 rfl rfl rfl ?_
    refine sf_sp (L := [(0, .inl (.int z7))]) rfl rfl ?_
    refine sf_iload rfl ?_
    refine sf_f1_eq (fun h8 => ?_) (fun h8 => absurd h8 (by omega))
    refine sf_throw rfl rfl ?_
    refine sf_xout rfl rfl ?_
    refine sf_xhh (L' := [(0, .inl (.ref 0)), (1, .inl (.int a_l1)), (2, .inl (.int a_l2)), (3, .inl (.int a_l3)), (4, .inl (.int a_l4)), (5, .inl (.int a_l5)), (6, .inl (.int a_l6)), (7, .inl (.int a_l7)), (8, .inl (.ref 130))]) rfl rfl ?_
    refine sf_iconst sf_c1 (fun z9 ez9 => ?_)
    refine sf_ireturn rfl rfl ?_
    exact hR _ _ hI0 hs0 (by omega) (by omega) (by first | (refine Or.inl ⟨by omega, ?_⟩; omega) | (refine Or.inr (Or.inl ⟨by omega, ?_⟩); omega) | (refine Or.inr (Or.inr ⟨by omega, ?_⟩); omega)) (by first | exact Or.inl ⟨by omega, rfl⟩ | exact Or.inr ⟨by omega, u14⟩) (by first | exact Or.inl ⟨by omega, rfl⟩ | exact Or.inr ⟨by omega, u15⟩) (by first | exact Or.inl ⟨by omega, rfl⟩ | exact Or.inr ⟨by omega, u16⟩) (by first | exact Or.inl ⟨by omega, rfl⟩ | exact Or.inr ⟨by omega, u17⟩) (by first | exact Or.inl ⟨by omega, rfl⟩ | exact Or.inr ⟨by omega, u18⟩) (by first | exact Or.inl ⟨by omega, rfl⟩ | exact Or.inr ⟨by omega, u19⟩) (by first | exact Or.inl ⟨by omega, rfl⟩ | exact Or.inr ⟨by omega, u20⟩)
  · refine sf_iload rfl ?_
    refine sf_iload rfl ?_
    refine sf_f2_ge (fun h10 => ?_) (fun h10 => ?_)
    · refine sf_iconst sf_c0 (fun z11 ez11 => ?_)
      refine sf_zreturn (by omega) rfl rfl ?_
      refine sf_zreturn (by omega) rfl rfl ?_
      refine sf_f1_eq (fun h12 => ?_) (fun h12 => absurd h12 (by omega))
      refine sf_iconst sf_c0 (fun z13 ez13 => ?_)
      refine sf_call1 rfl rfl rfl ?_
      refine sf_sp (L := [(0, .inl (.int z13))]) rfl rfl ?_
      refine sf_iload rfl ?_
      refine sf_f1_eq (fun h14 => ?_) (fun h14 => absurd h14 (by omega))
      refine sf_throw rfl rfl ?_
      refine sf_xout rfl rfl ?_
      refine sf_xhh (L' := [(0, .inl (.ref 0)), (1, .inl (.int a_l1)), (2, .inl (.int a_l2)), (3, .inl (.int a_l3)), (4, .inl (.int a_l4)), (5, .inl (.int a_l5)), (6, .inl (.int a_l6)), (7, .inl (.int a_l7)), (8, .inl (.ref 130))]) rfl rfl ?_
      refine sf_iconst sf_c1 (fun z15 ez15 => ?_)
      refine sf_ireturn rfl rfl ?_
      exact hR _ _ hI0 hs0 (by omega) (by omega) (by first | (refine Or.inl ⟨by omega, ?_⟩; omega) | (refine Or.inr (Or.inl ⟨by omega, ?_⟩); omega) | (refine Or.inr (Or.inr ⟨by omega, ?_⟩); omega)) (by first | exact Or.inl ⟨by omega, rfl⟩ | exact Or.inr ⟨by omega, u14⟩) (by first | exact Or.inl ⟨by omega, rfl⟩ | exact Or.inr ⟨by omega, u15⟩) (by first | exact Or.inl ⟨by omega, rfl⟩ | exact Or.inr ⟨by omega, u16⟩) (by first | exact Or.inl ⟨by omega, rfl⟩ | exact Or.inr ⟨by omega, u17⟩) (by first | exact Or.inl ⟨by omega, rfl⟩ | exact Or.inr ⟨by omega, u18⟩) (by first | exact Or.inl ⟨by omega, rfl⟩ | exact Or.inr ⟨by omega, u19⟩) (by first | exact Or.inl ⟨by omega, rfl⟩ | exact Or.inr ⟨by omega, u20⟩)
    · refine sf_iconst sf_c1 (fun z16 ez16 => ?_)
      refine sf_zreturn (by omega) rfl rfl ?_
      refine sf_zreturn (by omega) rfl rfl ?_
      refine sf_f1_eq (fun h17 => absurd h17 (by omega)) (fun h17 => ?_)
      refine sf_iload rfl ?_
      refine sf_iconst sf_cm1 (fun z18 ez18 => ?_)
      refine sf_f2_eq (fun h19 => ?_) (fun h19 => ?_)
      · refine sf_iconst sf_c1 (fun z20 ez20 => ?_)
        refine sf_call1 rfl rfl rfl ?_
        refine sf_sp (L := [(0, .inl (.int z20))]) rfl rfl ?_
        refine sf_iload rfl ?_
        refine sf_f1_eq (fun h21 => absurd h21 (by omega)) (fun h21 => ?_)
        refine sf_vreturn rfl rfl ?_
        refine sf_iload rfl ?_
        refine sf_iconst sf_c0 (fun z22 ez22 => ?_)
        refine sf_iconst sf_c3 (fun z23 ez23 => ?_)
        refine sf_call3 rfl rfl rfl ?_
        refine sf_sp (L := [(0, .inl (.int a_l3)), (1, .inl (.int z22)), (2, .inl (.int z23))]) rfl rfl ?_
        refine sf_iload rfl ?_
        refine sf_iload rfl ?_
        refine sf_f2_gt (fun h24 => ?_) (fun h24 => ?_)
        · refine sf_iconst sf_c0 (fun z25 ez25 => ?_)
          refine sf_zreturn (by omega) rfl rfl ?_
          refine sf_call1 rfl rfl rfl ?_
          refine sf_sp (L := [(0, .inl (.int z25))]) rfl rfl ?_
          refine sf_iload rfl ?_
          refine sf_f1_eq (fun h26 => ?_) (fun h26 => absurd h26 (by omega))
          refine sf_throw rfl rfl ?_
          refine sf_xout rfl rfl ?_
          refine sf_xhh (L' := [(0, .inl (.ref 0)), (1, .inl (.int a_l1)), (2, .inl (.int a_l2)), (3, .inl (.int a_l3)), (4, .inl (.int a_l4)), (5, .inl (.int a_l5)), (6, .inl (.int a_l6)), (7, .inl (.int a_l7)), (8, .inl (.ref 130))]) rfl rfl ?_
          refine sf_iconst sf_c1 (fun z27 ez27 => ?_)
          refine sf_ireturn rfl rfl ?_
          exact hR _ _ hI0 hs0 (by omega) (by omega) (by first | (refine Or.inl ⟨by omega, ?_⟩; omega) | (refine Or.inr (Or.inl ⟨by omega, ?_⟩); omega) | (refine Or.inr (Or.inr ⟨by omega, ?_⟩); omega)) (by first | exact Or.inl ⟨by omega, rfl⟩ | exact Or.inr ⟨by omega, u14⟩) (by first | exact Or.inl ⟨by omega, rfl⟩ | exact Or.inr ⟨by omega, u15⟩) (by first | exact Or.inl ⟨by omega, rfl⟩ | exact Or.inr ⟨by omega, u16⟩) (by first | exact Or.inl ⟨by omega, rfl⟩ | exact Or.inr ⟨by omega, u17⟩) (by first | exact Or.inl ⟨by omega, rfl⟩ | exact Or.inr ⟨by omega, u18⟩) (by first | exact Or.inl ⟨by omega, rfl⟩ | exact Or.inr ⟨by omega, u19⟩) (by first | exact Or.inl ⟨by omega, rfl⟩ | exact Or.inr ⟨by omega, u20⟩)
        · refine sf_iload rfl ?_
          refine sf_iload rfl ?_
          refine sf_f2_gt (fun h28 => ?_) (fun h28 => ?_)
          · refine sf_iconst sf_c0 (fun z29 ez29 => ?_)
            refine sf_zreturn (by omega) rfl rfl ?_
            refine sf_call1 rfl rfl rfl ?_
            refine sf_sp (L := [(0, .inl (.int z29))]) rfl rfl ?_
            refine sf_iload rfl ?_
            refine sf_f1_eq (fun h30 => ?_) (fun h30 => absurd h30 (by omega))
            refine sf_throw rfl rfl ?_
            refine sf_xout rfl rfl ?_
            refine sf_xhh (L' := [(0, .inl (.ref 0)), (1, .inl (.int a_l1)), (2, .inl (.int a_l2)), (3, .inl (.int a_l3)), (4, .inl (.int a_l4)), (5, .inl (.int a_l5)), (6, .inl (.int a_l6)), (7, .inl (.int a_l7)), (8, .inl (.ref 130))]) rfl rfl ?_
            refine sf_iconst sf_c1 (fun z31 ez31 => ?_)
            refine sf_ireturn rfl rfl ?_
            exact hR _ _ hI0 hs0 (by omega) (by omega) (by first | (refine Or.inl ⟨by omega, ?_⟩; omega) | (refine Or.inr (Or.inl ⟨by omega, ?_⟩); omega) | (refine Or.inr (Or.inr ⟨by omega, ?_⟩); omega)) (by first | exact Or.inl ⟨by omega, rfl⟩ | exact Or.inr ⟨by omega, u14⟩) (by first | exact Or.inl ⟨by omega, rfl⟩ | exact Or.inr ⟨by omega, u15⟩) (by first | exact Or.inl ⟨by omega, rfl⟩ | exact Or.inr ⟨by omega, u16⟩) (by first | exact Or.inl ⟨by omega, rfl⟩ | exact Or.inr ⟨by omega, u17⟩) (by first | exact Or.inl ⟨by omega, rfl⟩ | exact Or.inr ⟨by omega, u18⟩) (by first | exact Or.inl ⟨by omega, rfl⟩ | exact Or.inr ⟨by omega, u19⟩) (by first | exact Or.inl ⟨by omega, rfl⟩ | exact Or.inr ⟨by omega, u20⟩)
          · refine sf_iconst sf_c1 (fun z32 ez32 => ?_)
            refine sf_zreturn (by omega) rfl rfl ?_
            refine sf_call1 rfl rfl rfl ?_
            refine sf_sp (L := [(0, .inl (.int z32))]) rfl rfl ?_
            refine sf_iload rfl ?_
            refine sf_f1_eq (fun h33 => absurd h33 (by omega)) (fun h33 => ?_)
            refine sf_vreturn rfl rfl ?_
            refine sf_iload rfl ?_
            refine sf_iconst sf_c0 (fun z34 ez34 => ?_)
            refine sf_iconst sf_c10000 (fun z35 ez35 => ?_)
            refine sf_call3 rfl rfl rfl ?_
            refine sf_sp (L := [(0, .inl (.int a_l4)), (1, .inl (.int z34)), (2, .inl (.int z35))]) rfl rfl ?_
            refine sf_iload rfl ?_
            refine sf_iload rfl ?_
            refine sf_f2_gt (fun h36 => ?_) (fun h36 => ?_)
            · refine sf_iconst sf_c0 (fun z37 ez37 => ?_)
              refine sf_zreturn (by omega) rfl rfl ?_
              refine sf_f1_eq (fun h38 => ?_) (fun h38 => absurd h38 (by omega))
              refine sf_iconst sf_c0 (fun z39 ez39 => ?_)
              refine sf_call1 rfl rfl rfl ?_
              refine sf_sp (L := [(0, .inl (.int z39))]) rfl rfl ?_
              refine sf_iload rfl ?_
              refine sf_f1_eq (fun h40 => ?_) (fun h40 => absurd h40 (by omega))
              refine sf_throw rfl rfl ?_
              refine sf_xout rfl rfl ?_
              refine sf_xhh (L' := [(0, .inl (.ref 0)), (1, .inl (.int a_l1)), (2, .inl (.int a_l2)), (3, .inl (.int a_l3)), (4, .inl (.int a_l4)), (5, .inl (.int a_l5)), (6, .inl (.int a_l6)), (7, .inl (.int a_l7)), (8, .inl (.ref 130))]) rfl rfl ?_
              refine sf_iconst sf_c1 (fun z41 ez41 => ?_)
              refine sf_ireturn rfl rfl ?_
              exact hR _ _ hI0 hs0 (by omega) (by omega) (by first | (refine Or.inl ⟨by omega, ?_⟩; omega) | (refine Or.inr (Or.inl ⟨by omega, ?_⟩); omega) | (refine Or.inr (Or.inr ⟨by omega, ?_⟩); omega)) (by first | exact Or.inl ⟨by omega, rfl⟩ | exact Or.inr ⟨by omega, u14⟩) (by first | exact Or.inl ⟨by omega, rfl⟩ | exact Or.inr ⟨by omega, u15⟩) (by first | exact Or.inl ⟨by omega, rfl⟩ | exact Or.inr ⟨by omega, u16⟩) (by first | exact Or.inl ⟨by omega, rfl⟩ | exact Or.inr ⟨by omega, u17⟩) (by first | exact Or.inl ⟨by omega, rfl⟩ | exact Or.inr ⟨by omega, u18⟩) (by first | exact Or.inl ⟨by omega, rfl⟩ | exact Or.inr ⟨by omega, u19⟩) (by first | exact Or.inl ⟨by omega, rfl⟩ | exact Or.inr ⟨by omega, u20⟩)
            · refine sf_iload rfl ?_
              refine sf_iload rfl ?_
              refine sf_f2_gt (fun h42 => ?_) (fun h42 => ?_)
              · refine sf_iconst sf_c0 (fun z43 ez43 => ?_)
                refine sf_zreturn (by omega) rfl rfl ?_
                refine sf_f1_eq (fun h44 => ?_) (fun h44 => absurd h44 (by omega))
                refine sf_iconst sf_c0 (fun z45 ez45 => ?_)
                refine sf_call1 rfl rfl rfl ?_
                refine sf_sp (L := [(0, .inl (.int z45))]) rfl rfl ?_
                refine sf_iload rfl ?_
                refine sf_f1_eq (fun h46 => ?_) (fun h46 => absurd h46 (by omega))
                refine sf_throw rfl rfl ?_
                refine sf_xout rfl rfl ?_
                refine sf_xhh (L' := [(0, .inl (.ref 0)), (1, .inl (.int a_l1)), (2, .inl (.int a_l2)), (3, .inl (.int a_l3)), (4, .inl (.int a_l4)), (5, .inl (.int a_l5)), (6, .inl (.int a_l6)), (7, .inl (.int a_l7)), (8, .inl (.ref 130))]) rfl rfl ?_
                refine sf_iconst sf_c1 (fun z47 ez47 => ?_)
                refine sf_ireturn rfl rfl ?_
                exact hR _ _ hI0 hs0 (by omega) (by omega) (by first | (refine Or.inl ⟨by omega, ?_⟩; omega) | (refine Or.inr (Or.inl ⟨by omega, ?_⟩); omega) | (refine Or.inr (Or.inr ⟨by omega, ?_⟩); omega)) (by first | exact Or.inl ⟨by omega, rfl⟩ | exact Or.inr ⟨by omega, u14⟩) (by first | exact Or.inl ⟨by omega, rfl⟩ | exact Or.inr ⟨by omega, u15⟩) (by first | exact Or.inl ⟨by omega, rfl⟩ | exact Or.inr ⟨by omega, u16⟩) (by first | exact Or.inl ⟨by omega, rfl⟩ | exact Or.inr ⟨by omega, u17⟩) (by first | exact Or.inl ⟨by omega, rfl⟩ | exact Or.inr ⟨by omega, u18⟩) (by first | exact Or.inl ⟨by omega, rfl⟩ | exact Or.inr ⟨by omega, u19⟩) (by first | exact Or.inl ⟨by omega, rfl⟩ | exact Or.inr ⟨by omega, u20⟩)
              · refine sf_iconst sf_c1 (fun z48 ez48 => ?_)
                refine sf_zreturn (by omega) rfl rfl ?_
                refine sf_f1_eq (fun h49 => absurd h49 (by omega)) (fun h49 => ?_)
                refine sf_iload rfl ?_
                refine sf_iconst sf_c0 (fun z50 ez50 => ?_)
                refine sf_iconst sf_c10000 (fun z51 ez51 => ?_)
                refine sf_call3 rfl rfl rfl ?_
                refine sf_sp (L := [(0, .inl (.int a_l5)), (1, .inl (.int z50)), (2, .inl (.int z51))]) rfl rfl ?_
                refine sf_iload rfl ?_
                refine sf_iload rfl ?_
                refine sf_f2_gt (fun h52 => ?_) (fun h52 => ?_)
                · refine sf_iconst sf_c0 (fun z53 ez53 => ?_)
                  refine sf_zreturn (by omega) rfl rfl ?_
                  refine sf_f1_eq (fun h54 => ?_) (fun h54 => absurd h54 (by omega))
                  refine sf_iconst sf_c0 (fun z55 ez55 => ?_)
                  refine sf_call1 rfl rfl rfl ?_
                  refine sf_sp (L := [(0, .inl (.int z55))]) rfl rfl ?_
                  refine sf_iload rfl ?_
                  refine sf_f1_eq (fun h56 => ?_) (fun h56 => absurd h56 (by omega))
                  refine sf_throw rfl rfl ?_
                  refine sf_xout rfl rfl ?_
                  refine sf_xhh (L' := [(0, .inl (.ref 0)), (1, .inl (.int a_l1)), (2, .inl (.int a_l2)), (3, .inl (.int a_l3)), (4, .inl (.int a_l4)), (5, .inl (.int a_l5)), (6, .inl (.int a_l6)), (7, .inl (.int a_l7)), (8, .inl (.ref 130))]) rfl rfl ?_
                  refine sf_iconst sf_c1 (fun z57 ez57 => ?_)
                  refine sf_ireturn rfl rfl ?_
                  exact hR _ _ hI0 hs0 (by omega) (by omega) (by first | (refine Or.inl ⟨by omega, ?_⟩; omega) | (refine Or.inr (Or.inl ⟨by omega, ?_⟩); omega) | (refine Or.inr (Or.inr ⟨by omega, ?_⟩); omega)) (by first | exact Or.inl ⟨by omega, rfl⟩ | exact Or.inr ⟨by omega, u14⟩) (by first | exact Or.inl ⟨by omega, rfl⟩ | exact Or.inr ⟨by omega, u15⟩) (by first | exact Or.inl ⟨by omega, rfl⟩ | exact Or.inr ⟨by omega, u16⟩) (by first | exact Or.inl ⟨by omega, rfl⟩ | exact Or.inr ⟨by omega, u17⟩) (by first | exact Or.inl ⟨by omega, rfl⟩ | exact Or.inr ⟨by omega, u18⟩) (by first | exact Or.inl ⟨by omega, rfl⟩ | exact Or.inr ⟨by omega, u19⟩) (by first | exact Or.inl ⟨by omega, rfl⟩ | exact Or.inr ⟨by omega, u20⟩)
                · refine sf_iload rfl ?_
                  refine sf_iload rfl ?_
                  refine sf_f2_gt (fun h58 => ?_) (fun h58 => ?_)
                  · refine sf_iconst sf_c0 (fun z59 ez59 => ?_)
                    refine sf_zreturn (by omega) rfl rfl ?_
                    refine sf_f1_eq (fun h60 => ?_) (fun h60 => absurd h60 (by omega))
                    refine sf_iconst sf_c0 (fun z61 ez61 => ?_)
                    refine sf_call1 rfl rfl rfl ?_
                    refine sf_sp (L := [(0, .inl (.int z61))]) rfl rfl ?_
                    refine sf_iload rfl ?_
                    refine sf_f1_eq (fun h62 => ?_) (fun h62 => absurd h62 (by omega))
                    refine sf_throw rfl rfl ?_
                    refine sf_xout rfl rfl ?_
                    refine sf_xhh (L' := [(0, .inl (.ref 0)), (1, .inl (.int a_l1)), (2, .inl (.int a_l2)), (3, .inl (.int a_l3)), (4, .inl (.int a_l4)), (5, .inl (.int a_l5)), (6, .inl (.int a_l6)), (7, .inl (.int a_l7)), (8, .inl (.ref 130))]) rfl rfl ?_
                    refine sf_iconst sf_c1 (fun z63 ez63 => ?_)
                    refine sf_ireturn rfl rfl ?_
                    exact hR _ _ hI0 hs0 (by omega) (by omega) (by first | (refine Or.inl ⟨by omega, ?_⟩; omega) | (refine Or.inr (Or.inl ⟨by omega, ?_⟩); omega) | (refine Or.inr (Or.inr ⟨by omega, ?_⟩); omega)) (by first | exact Or.inl ⟨by omega, rfl⟩ | exact Or.inr ⟨by omega, u14⟩) (by first | exact Or.inl ⟨by omega, rfl⟩ | exact Or.inr ⟨by omega, u15⟩) (by first | exact Or.inl ⟨by omega, rfl⟩ | exact Or.inr ⟨by omega, u16⟩) (by first | exact Or.inl ⟨by omega, rfl⟩ | exact Or.inr ⟨by omega, u17⟩) (by first | exact Or.inl ⟨by omega, rfl⟩ | exact Or.inr ⟨by omega, u18⟩) (by first | exact Or.inl ⟨by omega, rfl⟩ | exact Or.inr ⟨by omega, u19⟩) (by first | exact Or.inl ⟨by omega, rfl⟩ | exact Or.inr ⟨by omega, u20⟩)
                  · refine sf_iconst sf_c1 (fun z64 ez64 => ?_)
                    refine sf_zreturn (by omega) rfl rfl ?_
                    refine sf_f1_eq (fun h65 => absurd h65 (by omega)) (fun h65 => ?_)
                    refine sf_iconst sf_c1 (fun z66 ez66 => ?_)
                    refine sf_call1 rfl rfl rfl ?_
                    refine sf_sp (L := [(0, .inl (.int z66))]) rfl rfl ?_
                    refine sf_iload rfl ?_
                    refine sf_f1_eq (fun h67 => absurd h67 (by omega)) (fun h67 => ?_)
                    refine sf_vreturn rfl rfl ?_
                    refine sf_iload rfl ?_
                    refine sf_call1 rfl rfl rfl ?_
                    refine sf_sp (L := [(0, .inl (.int a_l6))]) rfl rfl ?_
                    refine sf_iload rfl ?_
                    refine sf_iconst sf_c10000 (fun z68 ez68 => ?_)
                    refine sf_call2 rfl rfl rfl ?_
                    refine sf_sp (L := [(0, .inl (.int a_l6)), (1, .inl (.int z68))]) rfl rfl ?_
                    refine sf_iconst sf_c0 (fun z69 ez69 => ?_)
                    refine sf_iload rfl ?_
                    refine sf_f2_gt (fun h70 => ?_) (fun h70 => ?_)
                    · refine sf_iconst sf_c0 (fun z71 ez71 => ?_)
                      refine sf_zreturn (by omega) rfl rfl ?_
                      refine sf_zreturn (by omega) rfl rfl ?_
                      refine sf_f1_eq (fun h72 => ?_) (fun h72 => absurd h72 (by omega))
                      refine sf_iconst sf_c0 (fun z73 ez73 => ?_)
                      refine sf_call1 rfl rfl rfl ?_
                      refine sf_sp (L := [(0, .inl (.int z73))]) rfl rfl ?_
                      refine sf_iload rfl ?_
                      refine sf_f1_eq (fun h74 => ?_) (fun h74 => absurd h74 (by omega))
                      refine sf_throw rfl rfl ?_
                      refine sf_xout rfl rfl ?_
                      refine sf_xhh (L' := [(0, .inl (.ref 0)), (1, .inl (.int a_l1)), (2, .inl (.int a_l2)), (3, .inl (.int a_l3)), (4, .inl (.int a_l4)), (5, .inl (.int a_l5)), (6, .inl (.int a_l6)), (7, .inl (.int a_l7)), (8, .inl (.ref 130))]) rfl rfl ?_
                      refine sf_iconst sf_c1 (fun z75 ez75 => ?_)
                      refine sf_ireturn rfl rfl ?_
                      exact hR _ _ hI0 hs0 (by omega) (by omega) (by first | (refine Or.inl ⟨by omega, ?_⟩; omega) | (refine Or.inr (Or.inl ⟨by omega, ?_⟩); omega) | (refine Or.inr (Or.inr ⟨by omega, ?_⟩); omega)) (by first | exact Or.inl ⟨by omega, rfl⟩ | exact Or.inr ⟨by omega, u14⟩) (by first | exact Or.inl ⟨by omega, rfl⟩ | exact Or.inr ⟨by omega, u15⟩) (by first | exact Or.inl ⟨by omega, rfl⟩ | exact Or.inr ⟨by omega, u16⟩) (by first | exact Or.inl ⟨by omega, rfl⟩ | exact Or.inr ⟨by omega, u17⟩) (by first | exact Or.inl ⟨by omega, rfl⟩ | exact Or.inr ⟨by omega, u18⟩) (by first | exact Or.inl ⟨by omega, rfl⟩ | exact Or.inr ⟨by omega, u19⟩) (by first | exact Or.inl ⟨by omega, rfl⟩ | exact Or.inr ⟨by omega, u20⟩)
                    · refine sf_iload rfl ?_
                      refine sf_iload rfl ?_
                      refine sf_f2_ge (fun h76 => ?_) (fun h76 => ?_)
                      · refine sf_iconst sf_c0 (fun z77 ez77 => ?_)
                        refine sf_zreturn (by omega) rfl rfl ?_
                        refine sf_zreturn (by omega) rfl rfl ?_
                        refine sf_f1_eq (fun h78 => ?_) (fun h78 => absurd h78 (by omega))
                        refine sf_iconst sf_c0 (fun z79 ez79 => ?_)
                        refine sf_call1 rfl rfl rfl ?_
                        refine sf_sp (L := [(0, .inl (.int z79))]) rfl rfl ?_
                        refine sf_iload rfl ?_
                        refine sf_f1_eq (fun h80 => ?_) (fun h80 => absurd h80 (by omega))
                        refine sf_throw rfl rfl ?_
                        refine sf_xout rfl rfl ?_
                        refine sf_xhh (L' := [(0, .inl (.ref 0)), (1, .inl (.int a_l1)), (2, .inl (.int a_l2)), (3, .inl (.int a_l3)), (4, .inl (.int a_l4)), (5, .inl (.int a_l5)), (6, .inl (.int a_l6)), (7, .inl (.int a_l7)), (8, .inl (.ref 130))]) rfl rfl ?_
                        refine sf_iconst sf_c1 (fun z81 ez81 => ?_)
                        refine sf_ireturn rfl rfl ?_
                        exact hR _ _ hI0 hs0 (by omega) (by omega) (by first | (refine Or.inl ⟨by omega, ?_⟩; omega) | (refine Or.inr (Or.inl ⟨by omega, ?_⟩); omega) | (refine Or.inr (Or.inr ⟨by omega, ?_⟩); omega)) (by first | exact Or.inl ⟨by omega, rfl⟩ | exact Or.inr ⟨by omega, u14⟩) (by first | exact Or.inl ⟨by omega, rfl⟩ | exact Or.inr ⟨by omega, u15⟩) (by first | exact Or.inl ⟨by omega, rfl⟩ | exact Or.inr ⟨by omega, u16⟩) (by first | exact Or.inl ⟨by omega, rfl⟩ | exact Or.inr ⟨by omega, u17⟩) (by first | exact Or.inl ⟨by omega, rfl⟩ | exact Or.inr ⟨by omega, u18⟩) (by first | exact Or.inl ⟨by omega, rfl⟩ | exact Or.inr ⟨by omega, u19⟩) (by first | exact Or.inl ⟨by omega, rfl⟩ | exact Or.inr ⟨by omega, u20⟩)
                      · refine sf_iconst sf_c1 (fun z82 ez82 => ?_)
                        refine sf_zreturn (by omega) rfl rfl ?_
                        refine sf_zreturn (by omega) rfl rfl ?_
                        refine sf_f1_eq (fun h83 => absurd h83 (by omega)) (fun h83 => ?_)
                        refine sf_iload rfl ?_
                        refine sf_call1 rfl rfl rfl ?_
                        refine sf_sp (L := [(0, .inl (.int a_l7))]) rfl rfl ?_
                        refine sf_iload rfl ?_
                        refine sf_iconst sf_c10000 (fun z84 ez84 => ?_)
                        refine sf_call2 rfl rfl rfl ?_
                        refine sf_sp (L := [(0, .inl (.int a_l7)), (1, .inl (.int z84))]) rfl rfl ?_
                        refine sf_iconst sf_c0 (fun z85 ez85 => ?_)
                        refine sf_iload rfl ?_
                        refine sf_f2_gt (fun h86 => ?_) (fun h86 => ?_)
                        · refine sf_iconst sf_c0 (fun z87 ez87 => ?_)
                          refine sf_zreturn (by omega) rfl rfl ?_
                          refine sf_zreturn (by omega) rfl rfl ?_
                          refine sf_f1_eq (fun h88 => ?_) (fun h88 => absurd h88 (by omega))
                          refine sf_iconst sf_c0 (fun z89 ez89 => ?_)
                          refine sf_call1 rfl rfl rfl ?_
                          refine sf_sp (L := [(0, .inl (.int z89))]) rfl rfl ?_
                          refine sf_iload rfl ?_
                          refine sf_f1_eq (fun h90 => ?_) (fun h90 => absurd h90 (by omega))
                          refine sf_throw rfl rfl ?_
                          refine sf_xout rfl rfl ?_
                          refine sf_xhh (L' := [(0, .inl (.ref 0)), (1, .inl (.int a_l1)), (2, .inl (.int a_l2)), (3, .inl (.int a_l3)), (4, .inl (.int a_l4)), (5, .inl (.int a_l5)), (6, .inl (.int a_l6)), (7, .inl (.int a_l7)), (8, .inl (.ref 130))]) rfl rfl ?_
                          refine sf_iconst sf_c1 (fun z91 ez91 => ?_)
                          refine sf_ireturn rfl rfl ?_
                          exact hR _ _ hI0 hs0 (by omega) (by omega) (by first | (refine Or.inl ⟨by omega, ?_⟩; omega) | (refine Or.inr (Or.inl ⟨by omega, ?_⟩); omega) | (refine Or.inr (Or.inr ⟨by omega, ?_⟩); omega)) (by first | exact Or.inl ⟨by omega, rfl⟩ | exact Or.inr ⟨by omega, u14⟩) (by first | exact Or.inl ⟨by omega, rfl⟩ | exact Or.inr ⟨by omega, u15⟩) (by first | exact Or.inl ⟨by omega, rfl⟩ | exact Or.inr ⟨by omega, u16⟩) (by first | exact Or.inl ⟨by omega, rfl⟩ | exact Or.inr ⟨by omega, u17⟩) (by first | exact Or.inl ⟨by omega, rfl⟩ | exact Or.inr ⟨by omega, u18⟩) (by first | exact Or.inl ⟨by omega, rfl⟩ | exact Or.inr ⟨by omega, u19⟩) (by first | exact Or.inl ⟨by omega, rfl⟩ | exact Or.inr ⟨by omega, u20⟩)
                        · refine sf_iload rfl ?_
                          refine sf_iload rfl ?_
                          refine sf_f2_ge (fun h92 => ?_) (fun h92 => ?_)
                          · refine sf_iconst sf_c0 (fun z93 ez93 => ?_)
                            refine sf_zreturn (by omega) rfl rfl ?_
                            refine sf_zreturn (by omega) rfl rfl ?_
                            refine sf_f1_eq (fun h94 => ?_) (fun h94 => absurd h94 (by omega))
                            refine sf_iconst sf_c0 (fun z95 ez95 => ?_)
                            refine sf_call1 rfl rfl rfl ?_
                            refine sf_sp (L := [(0, .inl (.int z95))]) rfl rfl ?_
                            refine sf_iload rfl ?_
                            refine sf_f1_eq (fun h96 => ?_) (fun h96 => absurd h96 (by omega))
                            refine sf_throw rfl rfl ?_
                            refine sf_xout rfl rfl ?_
                            refine sf_xhh (L' := [(0, .inl (.ref 0)), (1, .inl (.int a_l1)), (2, .inl (.int a_l2)), (3, .inl (.int a_l3)), (4, .inl (.int a_l4)), (5, .inl (.int a_l5)), (6, .inl (.int a_l6)), (7, .inl (.int a_l7)), (8, .inl (.ref 130))]) rfl rfl ?_
                            refine sf_iconst sf_c1 (fun z97 ez97 => ?_)
                            refine sf_ireturn rfl rfl ?_
                            exact hR _ _ hI0 hs0 (by omega) (by omega) (by first | (refine Or.inl ⟨by omega, ?_⟩; omega) | (refine Or.inr (Or.inl ⟨by omega, ?_⟩); omega) | (refine Or.inr (Or.inr ⟨by omega, ?_⟩); omega)) (by first | exact Or.inl ⟨by omega, rfl⟩ | exact Or.inr ⟨by omega, u14⟩) (by first | exact Or.inl ⟨by omega, rfl⟩ | exact Or.inr ⟨by omega, u15⟩) (by first | exact Or.inl ⟨by omega, rfl⟩ | exact Or.inr ⟨by omega, u16⟩) (by first | exact Or.inl ⟨by omega, rfl⟩ | exact Or.inr ⟨by omega, u17⟩) (by first | exact Or.inl ⟨by omega, rfl⟩ | exact Or.inr ⟨by omega, u18⟩) (by first | exact Or.inl ⟨by omega, rfl⟩ | exact Or.inr ⟨by omega, u19⟩) (by first | exact Or.inl ⟨by omega, rfl⟩ | exact Or.inr ⟨by omega, u20⟩)
                          · refine sf_iconst sf_c1 (fun z98 ez98 => ?_)
                            refine sf_zreturn (by omega) rfl rfl ?_
                            refine sf_zreturn (by omega) rfl rfl ?_
                            refine sf_f1_eq (fun h99 => absurd h99 (by omega)) (fun h99 => ?_)
                            refine sf_iload rfl ?_
                            refine sf_iload rfl ?_
                            refine sf_f2_gt (fun h100 => ?_) (fun h100 => ?_)
                            · refine sf_iconst sf_c0 (fun z101 ez101 => ?_)
                              refine sf_call1 rfl rfl rfl ?_
                              refine sf_sp (L := [(0, .inl (.int z101))]) rfl rfl ?_
                              refine sf_iload rfl ?_
                              refine sf_f1_eq (fun h102 => ?_) (fun h102 => absurd h102 (by omega))
                              refine sf_throw rfl rfl ?_
                              refine sf_xout rfl rfl ?_
                              refine sf_xhh (L' := [(0, .inl (.ref 0)), (1, .inl (.int a_l1)), (2, .inl (.int a_l2)), (3, .inl (.int a_l3)), (4, .inl (.int a_l4)), (5, .inl (.int a_l5)), (6, .inl (.int a_l6)), (7, .inl (.int a_l7)), (8, .inl (.ref 130))]) rfl rfl ?_
                              refine sf_iconst sf_c1 (fun z103 ez103 => ?_)
                              refine sf_ireturn rfl rfl ?_
                              exact hR _ _ hI0 hs0 (by omega) (by omega) (by first | (refine Or.inl ⟨by omega, ?_⟩; omega) | (refine Or.inr (Or.inl ⟨by omega, ?_⟩); omega) | (refine Or.inr (Or.inr ⟨by omega, ?_⟩); omega)) (by first | exact Or.inl ⟨by omega, rfl⟩ | exact Or.inr ⟨by omega, u14⟩) (by first | exact Or.inl ⟨by omega, rfl⟩ | exact Or.inr ⟨by omega, u15⟩) (by first | exact Or.inl ⟨by omega, rfl⟩ | exact Or.inr ⟨by omega, u16⟩) (by first | exact Or.inl ⟨by omega, rfl⟩ | exact Or.inr ⟨by omega, u17⟩) (by first | exact Or.inl ⟨by omega, rfl⟩ | exact Or.inr ⟨by omega, u18⟩) (by first | exact Or.inl ⟨by omega, rfl⟩ | exact Or.inr ⟨by omega, u19⟩) (by first | exact Or.inl ⟨by omega, rfl⟩ | exact Or.inr ⟨by omega, u20⟩)
                            · refine sf_iconst sf_c1 (fun z104 ez104 => ?_)
                              refine sf_call1 rfl rfl rfl ?_
                              refine sf_sp (L := [(0, .inl (.int z104))]) rfl rfl ?_
                              refine sf_iload rfl ?_
                              refine sf_f1_eq (fun h105 => absurd h105 (by omega)) (fun h105 => ?_)
                              refine sf_vreturn rfl rfl ?_
                              refine sf_aload rfl ?_
                              refine sf_getr hI0 rfl rfl ?_
                              refine sf_geti hI0 rfl rfl (fun v106 lv106 uv106 ev106 => ?_)
                              refine sf_iconst sf_c40 (fun z107 ez107 => ?_)
                              refine sf_f2_ge (fun h108 => ?_) (fun h108 => ?_)
                              · refine sf_iconst sf_c0 (fun z109 ez109 => ?_)
                                refine sf_call1 rfl rfl rfl ?_
                                refine sf_sp (L := [(0, .inl (.int z109))]) rfl rfl ?_
                                refine sf_iload rfl ?_
                                refine sf_f1_eq (fun h110 => ?_) (fun h110 => absurd h110 (by omega))
                                refine sf_throw rfl rfl ?_
                                refine sf_xout rfl rfl ?_
                                refine sf_xhm rfl ?_
                                refine sf_xhh (L' := [(0, .inl (.ref 0)), (1, .inl (.int a_l1)), (2, .inl (.int a_l2)), (3, .inl (.int a_l3)), (4, .inl (.int a_l4)), (5, .inl (.int a_l5)), (6, .inl (.int a_l6)), (7, .inl (.int a_l7)), (8, .inl (.ref 130))]) rfl rfl ?_
                                refine sf_iconst sf_c2 (fun z111 ez111 => ?_)
                                refine sf_ireturn rfl rfl ?_
                                exact hR _ _ hI0 hs0 (by omega) (by omega) (by first | (refine Or.inl ⟨by omega, ?_⟩; omega) | (refine Or.inr (Or.inl ⟨by omega, ?_⟩); omega) | (refine Or.inr (Or.inr ⟨by omega, ?_⟩); omega)) (by first | exact Or.inl ⟨by omega, rfl⟩ | exact Or.inr ⟨by omega, u14⟩) (by first | exact Or.inl ⟨by omega, rfl⟩ | exact Or.inr ⟨by omega, u15⟩) (by first | exact Or.inl ⟨by omega, rfl⟩ | exact Or.inr ⟨by omega, u16⟩) (by first | exact Or.inl ⟨by omega, rfl⟩ | exact Or.inr ⟨by omega, u17⟩) (by first | exact Or.inl ⟨by omega, rfl⟩ | exact Or.inr ⟨by omega, u18⟩) (by first | exact Or.inl ⟨by omega, rfl⟩ | exact Or.inr ⟨by omega, u19⟩) (by first | exact Or.inl ⟨by omega, rfl⟩ | exact Or.inr ⟨by omega, u20⟩)
                              · refine sf_iconst sf_c1 (fun z112 ez112 => ?_)
                                refine sf_call1 rfl rfl rfl ?_
                                refine sf_sp (L := [(0, .inl (.int z112))]) rfl rfl ?_
                                refine sf_iload rfl ?_
                                refine sf_f1_eq (fun h113 => absurd h113 (by omega)) (fun h113 => ?_)
                                refine sf_vreturn rfl rfl ?_
                                refine sf_aload rfl ?_
                                refine sf_getr hI0 rfl rfl ?_
                                refine sf_iload rfl ?_
                                refine sf_iload rfl ?_
                                refine sf_iload rfl ?_
                                refine sf_iload rfl ?_
                                refine sf_iload rfl ?_
                                refine sf_iload rfl ?_
                                refine sf_iload rfl ?_
                                refine sf_call8 rfl rfl rfl ?_
                                refine sf_rv hI0 rfl ?_
                                refine sf_sp (L := [(0, .inl (.ref 13)), (1, .inl (.int a_l1)), (2, .inl (.int a_l2)), (3, .inl (.int a_l3)), (4, .inl (.int a_l4)), (5, .inl (.int a_l5)), (6, .inl (.int a_l6)), (7, .inl (.int a_l7))]) rfl rfl ?_
                                refine sf_aload rfl ?_
                                refine sf_geti hI0 rfl rfl (fun v114 lv114 uv114 ev114 => ?_)
                                refine sf_istore (L' := [(0, .inl (.ref 13)), (1, .inl (.int a_l1)), (2, .inl (.int a_l2)), (3, .inl (.int a_l3)), (4, .inl (.int a_l4)), (5, .inl (.int a_l5)), (6, .inl (.int a_l6)), (7, .inl (.int a_l7))]) rfl ?_
                                refine sf_aload rfl ?_
                                refine sf_getr hI0 rfl rfl ?_
                                refine sf_iload rfl ?_
                                refine sf_iload rfl ?_
                                refine sf_iast hI0 hs0 rfl (by omega) (sf_bd _) rfl rfl (fun w115 Iw115 sw115 kw115 uw115 => ?_)
                                have c116 := sf_mf kw115 (p := 13) (j := 1) rfl
                                have c117 := sf_ma kw115 (p := 15) rfl
                                have c118 := sf_ma kw115 (p := 16) rfl
                                have c119 := sf_ma kw115 (p := 17) rfl
                                have c120 := sf_ma kw115 (p := 18) rfl
                                have c121 := sf_ma kw115 (p := 19) rfl
                                have c122 := sf_ma kw115 (p := 20) rfl
                                clear kw115
                                have u14 := uw115
                                rw [show v114.toInt = (sf_f w0 13 1).toInt by omega] at u14
                                skip
                                refine sf_aload rfl ?_
                                refine sf_getr Iw115 rfl rfl ?_
                                refine sf_iload rfl ?_
                                refine sf_iload rfl ?_
                                refine sf_iast Iw115 sw115 rfl (by omega) (sf_bd _) rfl rfl (fun w123 Iw123 sw123 kw123 uw123 => ?_)
                                have c124 := sf_mf kw123 (p := 13) (j := 1) rfl
                                have c125 := sf_ma kw123 (p := 14) rfl
                                have c126 := sf_ma kw123 (p := 16) rfl
                                have c127 := sf_ma kw123 (p := 17) rfl
                                have c128 := sf_ma kw123 (p := 18) rfl
                                have c129 := sf_ma kw123 (p := 19) rfl
                                have c130 := sf_ma kw123 (p := 20) rfl
                                clear kw123
                                have u15 := uw123
                                rw [show v114.toInt = (sf_f w0 13 1).toInt by omega] at u15
                                rw [c117] at u15
                                refine sf_aload rfl ?_
                                refine sf_getr Iw123 rfl rfl ?_
                                refine sf_iload rfl ?_
                                refine sf_iload rfl ?_
                                refine sf_iast Iw123 sw123 rfl (by omega) (sf_bd _) rfl rfl (fun w131 Iw131 sw131 kw131 uw131 => ?_)
                                have c132 := sf_mf kw131 (p := 13) (j := 1) rfl
                                have c133 := sf_ma kw131 (p := 14) rfl
                                have c134 := sf_ma kw131 (p := 15) rfl
                                have c135 := sf_ma kw131 (p := 17) rfl
                                have c136 := sf_ma kw131 (p := 18) rfl
                                have c137 := sf_ma kw131 (p := 19) rfl
                                have c138 := sf_ma kw131 (p := 20) rfl
                                clear kw131
                                have u16 := uw131
                                rw [show v114.toInt = (sf_f w0 13 1).toInt by omega] at u16
                                rw [c126, c118] at u16
                                refine sf_aload rfl ?_
                                refine sf_getr Iw131 rfl rfl ?_
                                refine sf_iload rfl ?_
                                refine sf_iload rfl ?_
                                refine sf_iast Iw131 sw131 rfl (by omega) (sf_bd _) rfl rfl (fun w139 Iw139 sw139 kw139 uw139 => ?_)
                                have c140 := sf_mf kw139 (p := 13) (j := 1) rfl
                                have c141 := sf_ma kw139 (p := 14) rfl
                                have c142 := sf_ma kw139 (p := 15) rfl
                                have c143 := sf_ma kw139 (p := 16) rfl
                                have c144 := sf_ma kw139 (p := 18) rfl
                                have c145 := sf_ma kw139 (p := 19) rfl
                                have c146 := sf_ma kw139 (p := 20) rfl
                                clear kw139
                                have u17 := uw139
                                rw [show v114.toInt = (sf_f w0 13 1).toInt by omega] at u17
                                rw [c135, c127, c119] at u17
                                refine sf_aload rfl ?_
                                refine sf_getr Iw139 rfl rfl ?_
                                refine sf_iload rfl ?_
                                refine sf_iload rfl ?_
                                refine sf_iast Iw139 sw139 rfl (by omega) (sf_bd _) rfl rfl (fun w147 Iw147 sw147 kw147 uw147 => ?_)
                                have c148 := sf_mf kw147 (p := 13) (j := 1) rfl
                                have c149 := sf_ma kw147 (p := 14) rfl
                                have c150 := sf_ma kw147 (p := 15) rfl
                                have c151 := sf_ma kw147 (p := 16) rfl
                                have c152 := sf_ma kw147 (p := 17) rfl
                                have c153 := sf_ma kw147 (p := 19) rfl
                                have c154 := sf_ma kw147 (p := 20) rfl
                                clear kw147
                                have u18 := uw147
                                rw [show v114.toInt = (sf_f w0 13 1).toInt by omega] at u18
                                rw [c144, c136, c128, c120] at u18
                                refine sf_aload rfl ?_
                                refine sf_getr Iw147 rfl rfl ?_
                                refine sf_iload rfl ?_
                                refine sf_iload rfl ?_
                                refine sf_iast Iw147 sw147 rfl (by omega) (sf_bd _) rfl rfl (fun w155 Iw155 sw155 kw155 uw155 => ?_)
                                have c156 := sf_mf kw155 (p := 13) (j := 1) rfl
                                have c157 := sf_ma kw155 (p := 14) rfl
                                have c158 := sf_ma kw155 (p := 15) rfl
                                have c159 := sf_ma kw155 (p := 16) rfl
                                have c160 := sf_ma kw155 (p := 17) rfl
                                have c161 := sf_ma kw155 (p := 18) rfl
                                have c162 := sf_ma kw155 (p := 20) rfl
                                clear kw155
                                have u19 := uw155
                                rw [show v114.toInt = (sf_f w0 13 1).toInt by omega] at u19
                                rw [c153, c145, c137, c129, c121] at u19
                                refine sf_aload rfl ?_
                                refine sf_getr Iw155 rfl rfl ?_
                                refine sf_iload rfl ?_
                                refine sf_iload rfl ?_
                                refine sf_iast Iw155 sw155 rfl (by omega) (sf_bd _) rfl rfl (fun w163 Iw163 sw163 kw163 uw163 => ?_)
                                have c164 := sf_mf kw163 (p := 13) (j := 1) rfl
                                have c165 := sf_ma kw163 (p := 14) rfl
                                have c166 := sf_ma kw163 (p := 15) rfl
                                have c167 := sf_ma kw163 (p := 16) rfl
                                have c168 := sf_ma kw163 (p := 17) rfl
                                have c169 := sf_ma kw163 (p := 18) rfl
                                have c170 := sf_ma kw163 (p := 19) rfl
                                clear kw163
                                have u20 := uw163
                                rw [show v114.toInt = (sf_f w0 13 1).toInt by omega] at u20
                                rw [c162, c154, c146, c138, c130, c122] at u20
                                refine sf_aload rfl ?_
                                refine sf_dup rfl ?_
                                refine sf_geti Iw163 rfl rfl (fun v171 lv171 uv171 ev171 => ?_)
                                rw [c164, c156, c148, c140, c132, c124, c116] at ev171
                                refine sf_iconst sf_c1 (fun z172 ez172 => ?_)
                                refine sf_iadd (by omega) (fun v173 ev173 => ?_)
                                refine sf_puti Iw163 sw163 rfl rfl (by omega) rfl rfl rfl (fun w174 Iw174 sw174 kw174 uw174 => ?_)
                                have c175 := sf_ma kw174 (p := 14) rfl
                                have c176 := sf_ma kw174 (p := 15) rfl
                                have c177 := sf_ma kw174 (p := 16) rfl
                                have c178 := sf_ma kw174 (p := 17) rfl
                                have c179 := sf_ma kw174 (p := 18) rfl
                                have c180 := sf_ma kw174 (p := 19) rfl
                                have c181 := sf_ma kw174 (p := 20) rfl
                                clear kw174
                                refine sf_iload rfl ?_
                                refine sf_ireturn rfl rfl ?_
                                refine sf_ireturn rfl rfl ?_
                                refine sf_i2l (fun v182 ev182 => ?_)
                                refine sf_last Iw174 sw174 rfl (by omega) rfl rfl (fun w183 Iw183 sw183 kw183 uw183 => ?_)
                                have c184 := sf_mf kw183 (p := 13) (j := 1) rfl
                                have c185 := sf_ma kw183 (p := 14) rfl
                                have c186 := sf_ma kw183 (p := 15) rfl
                                have c187 := sf_ma kw183 (p := 16) rfl
                                have c188 := sf_ma kw183 (p := 17) rfl
                                have c189 := sf_ma kw183 (p := 18) rfl
                                have c190 := sf_ma kw183 (p := 19) rfl
                                have c191 := sf_ma kw183 (p := 20) rfl
                                clear kw183
                                have go : (sf_l w183 130 0).toInt = v182.toInt := by rw [uw183, show z1.toInt.toNat = 0 by omega]; unfold vp_updL; rw [if_pos rfl]
                                refine sf_iconst sf_c0 (fun z192 ez192 => ?_)
                                refine sf_ireturn rfl rfl ?_
                                exact hR _ _ Iw183 sw183 (by omega) (by omega) (by rw [c184, uw174]; first | (refine Or.inl ⟨by omega, ?_⟩; omega) | (refine Or.inr (Or.inl ⟨by omega, ?_⟩); omega) | (refine Or.inr (Or.inr ⟨by omega, ?_⟩); omega)) (by rw [c185, c175, c165, c157, c149, c141, c133, c125]; first | exact Or.inl ⟨by omega, rfl⟩ | exact Or.inr ⟨by omega, u14⟩) (by rw [c186, c176, c166, c158, c150, c142, c134]; first | exact Or.inl ⟨by omega, rfl⟩ | exact Or.inr ⟨by omega, u15⟩) (by rw [c187, c177, c167, c159, c151, c143]; first | exact Or.inl ⟨by omega, rfl⟩ | exact Or.inr ⟨by omega, u16⟩) (by rw [c188, c178, c168, c160, c152]; first | exact Or.inl ⟨by omega, rfl⟩ | exact Or.inr ⟨by omega, u17⟩) (by rw [c189, c179, c169, c161]; first | exact Or.inl ⟨by omega, rfl⟩ | exact Or.inr ⟨by omega, u18⟩) (by rw [c190, c180, c170]; first | exact Or.inl ⟨by omega, rfl⟩ | exact Or.inr ⟨by omega, u19⟩) (by rw [c191, c181]; first | exact Or.inl ⟨by omega, rfl⟩ | exact Or.inr ⟨by omega, u20⟩)
      · refine sf_iload rfl ?_
        refine sf_call1 rfl rfl rfl ?_
        refine sf_sp (L := [(0, .inl (.int a_l2))]) rfl rfl ?_
        refine sf_iload rfl ?_
        refine sf_iconst sf_c8 (fun z193 ez193 => ?_)
        refine sf_call2 rfl rfl rfl ?_
        refine sf_sp (L := [(0, .inl (.int a_l2)), (1, .inl (.int z193))]) rfl rfl ?_
        refine sf_iconst sf_c0 (fun z194 ez194 => ?_)
        refine sf_iload rfl ?_
        refine sf_f2_gt (fun h195 => ?_) (fun h195 => ?_)
        · refine sf_iconst sf_c0 (fun z196 ez196 => ?_)
          refine sf_zreturn (by omega) rfl rfl ?_
          refine sf_zreturn (by omega) rfl rfl ?_
          refine sf_f1_eq (fun h197 => ?_) (fun h197 => absurd h197 (by omega))
          refine sf_iconst sf_c0 (fun z198 ez198 => ?_)
          refine sf_call1 rfl rfl rfl ?_
          refine sf_sp (L := [(0, .inl (.int z198))]) rfl rfl ?_
          refine sf_iload rfl ?_
          refine sf_f1_eq (fun h199 => ?_) (fun h199 => absurd h199 (by omega))
          refine sf_throw rfl rfl ?_
          refine sf_xout rfl rfl ?_
          refine sf_xhh (L' := [(0, .inl (.ref 0)), (1, .inl (.int a_l1)), (2, .inl (.int a_l2)), (3, .inl (.int a_l3)), (4, .inl (.int a_l4)), (5, .inl (.int a_l5)), (6, .inl (.int a_l6)), (7, .inl (.int a_l7)), (8, .inl (.ref 130))]) rfl rfl ?_
          refine sf_iconst sf_c1 (fun z200 ez200 => ?_)
          refine sf_ireturn rfl rfl ?_
          exact hR _ _ hI0 hs0 (by omega) (by omega) (by first | (refine Or.inl ⟨by omega, ?_⟩; omega) | (refine Or.inr (Or.inl ⟨by omega, ?_⟩); omega) | (refine Or.inr (Or.inr ⟨by omega, ?_⟩); omega)) (by first | exact Or.inl ⟨by omega, rfl⟩ | exact Or.inr ⟨by omega, u14⟩) (by first | exact Or.inl ⟨by omega, rfl⟩ | exact Or.inr ⟨by omega, u15⟩) (by first | exact Or.inl ⟨by omega, rfl⟩ | exact Or.inr ⟨by omega, u16⟩) (by first | exact Or.inl ⟨by omega, rfl⟩ | exact Or.inr ⟨by omega, u17⟩) (by first | exact Or.inl ⟨by omega, rfl⟩ | exact Or.inr ⟨by omega, u18⟩) (by first | exact Or.inl ⟨by omega, rfl⟩ | exact Or.inr ⟨by omega, u19⟩) (by first | exact Or.inl ⟨by omega, rfl⟩ | exact Or.inr ⟨by omega, u20⟩)
        · refine sf_iload rfl ?_
          refine sf_iload rfl ?_
          refine sf_f2_ge (fun h201 => ?_) (fun h201 => ?_)
          · refine sf_iconst sf_c0 (fun z202 ez202 => ?_)
            refine sf_zreturn (by omega) rfl rfl ?_
            refine sf_zreturn (by omega) rfl rfl ?_
            refine sf_f1_eq (fun h203 => ?_) (fun h203 => absurd h203 (by omega))
            refine sf_iconst sf_c0 (fun z204 ez204 => ?_)
            refine sf_call1 rfl rfl rfl ?_
            refine sf_sp (L := [(0, .inl (.int z204))]) rfl rfl ?_
            refine sf_iload rfl ?_
            refine sf_f1_eq (fun h205 => ?_) (fun h205 => absurd h205 (by omega))
            refine sf_throw rfl rfl ?_
            refine sf_xout rfl rfl ?_
            refine sf_xhh (L' := [(0, .inl (.ref 0)), (1, .inl (.int a_l1)), (2, .inl (.int a_l2)), (3, .inl (.int a_l3)), (4, .inl (.int a_l4)), (5, .inl (.int a_l5)), (6, .inl (.int a_l6)), (7, .inl (.int a_l7)), (8, .inl (.ref 130))]) rfl rfl ?_
            refine sf_iconst sf_c1 (fun z206 ez206 => ?_)
            refine sf_ireturn rfl rfl ?_
            exact hR _ _ hI0 hs0 (by omega) (by omega) (by first | (refine Or.inl ⟨by omega, ?_⟩; omega) | (refine Or.inr (Or.inl ⟨by omega, ?_⟩); omega) | (refine Or.inr (Or.inr ⟨by omega, ?_⟩); omega)) (by first | exact Or.inl ⟨by omega, rfl⟩ | exact Or.inr ⟨by omega, u14⟩) (by first | exact Or.inl ⟨by omega, rfl⟩ | exact Or.inr ⟨by omega, u15⟩) (by first | exact Or.inl ⟨by omega, rfl⟩ | exact Or.inr ⟨by omega, u16⟩) (by first | exact Or.inl ⟨by omega, rfl⟩ | exact Or.inr ⟨by omega, u17⟩) (by first | exact Or.inl ⟨by omega, rfl⟩ | exact Or.inr ⟨by omega, u18⟩) (by first | exact Or.inl ⟨by omega, rfl⟩ | exact Or.inr ⟨by omega, u19⟩) (by first | exact Or.inl ⟨by omega, rfl⟩ | exact Or.inr ⟨by omega, u20⟩)
          · refine sf_iconst sf_c1 (fun z207 ez207 => ?_)
            refine sf_zreturn (by omega) rfl rfl ?_
            refine sf_zreturn (by omega) rfl rfl ?_
            refine sf_f1_eq (fun h208 => absurd h208 (by omega)) (fun h208 => ?_)
            refine sf_iconst sf_c1 (fun z209 ez209 => ?_)
            refine sf_call1 rfl rfl rfl ?_
            refine sf_sp (L := [(0, .inl (.int z209))]) rfl rfl ?_
            refine sf_iload rfl ?_
            refine sf_f1_eq (fun h210 => absurd h210 (by omega)) (fun h210 => ?_)
            refine sf_vreturn rfl rfl ?_
            refine sf_iload rfl ?_
            refine sf_iconst sf_c0 (fun z211 ez211 => ?_)
            refine sf_iconst sf_c3 (fun z212 ez212 => ?_)
            refine sf_call3 rfl rfl rfl ?_
            refine sf_sp (L := [(0, .inl (.int a_l3)), (1, .inl (.int z211)), (2, .inl (.int z212))]) rfl rfl ?_
            refine sf_iload rfl ?_
            refine sf_iload rfl ?_
            refine sf_f2_gt (fun h213 => ?_) (fun h213 => ?_)
            · refine sf_iconst sf_c0 (fun z214 ez214 => ?_)
              refine sf_zreturn (by omega) rfl rfl ?_
              refine sf_call1 rfl rfl rfl ?_
              refine sf_sp (L := [(0, .inl (.int z214))]) rfl rfl ?_
              refine sf_iload rfl ?_
              refine sf_f1_eq (fun h215 => ?_) (fun h215 => absurd h215 (by omega))
              refine sf_throw rfl rfl ?_
              refine sf_xout rfl rfl ?_
              refine sf_xhh (L' := [(0, .inl (.ref 0)), (1, .inl (.int a_l1)), (2, .inl (.int a_l2)), (3, .inl (.int a_l3)), (4, .inl (.int a_l4)), (5, .inl (.int a_l5)), (6, .inl (.int a_l6)), (7, .inl (.int a_l7)), (8, .inl (.ref 130))]) rfl rfl ?_
              refine sf_iconst sf_c1 (fun z216 ez216 => ?_)
              refine sf_ireturn rfl rfl ?_
              exact hR _ _ hI0 hs0 (by omega) (by omega) (by first | (refine Or.inl ⟨by omega, ?_⟩; omega) | (refine Or.inr (Or.inl ⟨by omega, ?_⟩); omega) | (refine Or.inr (Or.inr ⟨by omega, ?_⟩); omega)) (by first | exact Or.inl ⟨by omega, rfl⟩ | exact Or.inr ⟨by omega, u14⟩) (by first | exact Or.inl ⟨by omega, rfl⟩ | exact Or.inr ⟨by omega, u15⟩) (by first | exact Or.inl ⟨by omega, rfl⟩ | exact Or.inr ⟨by omega, u16⟩) (by first | exact Or.inl ⟨by omega, rfl⟩ | exact Or.inr ⟨by omega, u17⟩) (by first | exact Or.inl ⟨by omega, rfl⟩ | exact Or.inr ⟨by omega, u18⟩) (by first | exact Or.inl ⟨by omega, rfl⟩ | exact Or.inr ⟨by omega, u19⟩) (by first | exact Or.inl ⟨by omega, rfl⟩ | exact Or.inr ⟨by omega, u20⟩)
            · refine sf_iload rfl ?_
              refine sf_iload rfl ?_
              refine sf_f2_gt (fun h217 => ?_) (fun h217 => ?_)
              · refine sf_iconst sf_c0 (fun z218 ez218 => ?_)
                refine sf_zreturn (by omega) rfl rfl ?_
                refine sf_call1 rfl rfl rfl ?_
                refine sf_sp (L := [(0, .inl (.int z218))]) rfl rfl ?_
                refine sf_iload rfl ?_
                refine sf_f1_eq (fun h219 => ?_) (fun h219 => absurd h219 (by omega))
                refine sf_throw rfl rfl ?_
                refine sf_xout rfl rfl ?_
                refine sf_xhh (L' := [(0, .inl (.ref 0)), (1, .inl (.int a_l1)), (2, .inl (.int a_l2)), (3, .inl (.int a_l3)), (4, .inl (.int a_l4)), (5, .inl (.int a_l5)), (6, .inl (.int a_l6)), (7, .inl (.int a_l7)), (8, .inl (.ref 130))]) rfl rfl ?_
                refine sf_iconst sf_c1 (fun z220 ez220 => ?_)
                refine sf_ireturn rfl rfl ?_
                exact hR _ _ hI0 hs0 (by omega) (by omega) (by first | (refine Or.inl ⟨by omega, ?_⟩; omega) | (refine Or.inr (Or.inl ⟨by omega, ?_⟩); omega) | (refine Or.inr (Or.inr ⟨by omega, ?_⟩); omega)) (by first | exact Or.inl ⟨by omega, rfl⟩ | exact Or.inr ⟨by omega, u14⟩) (by first | exact Or.inl ⟨by omega, rfl⟩ | exact Or.inr ⟨by omega, u15⟩) (by first | exact Or.inl ⟨by omega, rfl⟩ | exact Or.inr ⟨by omega, u16⟩) (by first | exact Or.inl ⟨by omega, rfl⟩ | exact Or.inr ⟨by omega, u17⟩) (by first | exact Or.inl ⟨by omega, rfl⟩ | exact Or.inr ⟨by omega, u18⟩) (by first | exact Or.inl ⟨by omega, rfl⟩ | exact Or.inr ⟨by omega, u19⟩) (by first | exact Or.inl ⟨by omega, rfl⟩ | exact Or.inr ⟨by omega, u20⟩)
              · refine sf_iconst sf_c1 (fun z221 ez221 => ?_)
                refine sf_zreturn (by omega) rfl rfl ?_
                refine sf_call1 rfl rfl rfl ?_
                refine sf_sp (L := [(0, .inl (.int z221))]) rfl rfl ?_
                refine sf_iload rfl ?_
                refine sf_f1_eq (fun h222 => absurd h222 (by omega)) (fun h222 => ?_)
                refine sf_vreturn rfl rfl ?_
                refine sf_iload rfl ?_
                refine sf_iconst sf_c0 (fun z223 ez223 => ?_)
                refine sf_iconst sf_c10000 (fun z224 ez224 => ?_)
                refine sf_call3 rfl rfl rfl ?_
                refine sf_sp (L := [(0, .inl (.int a_l4)), (1, .inl (.int z223)), (2, .inl (.int z224))]) rfl rfl ?_
                refine sf_iload rfl ?_
                refine sf_iload rfl ?_
                refine sf_f2_gt (fun h225 => ?_) (fun h225 => ?_)
                · refine sf_iconst sf_c0 (fun z226 ez226 => ?_)
                  refine sf_zreturn (by omega) rfl rfl ?_
                  refine sf_f1_eq (fun h227 => ?_) (fun h227 => absurd h227 (by omega))
                  refine sf_iconst sf_c0 (fun z228 ez228 => ?_)
                  refine sf_call1 rfl rfl rfl ?_
                  refine sf_sp (L := [(0, .inl (.int z228))]) rfl rfl ?_
                  refine sf_iload rfl ?_
                  refine sf_f1_eq (fun h229 => ?_) (fun h229 => absurd h229 (by omega))
                  refine sf_throw rfl rfl ?_
                  refine sf_xout rfl rfl ?_
                  refine sf_xhh (L' := [(0, .inl (.ref 0)), (1, .inl (.int a_l1)), (2, .inl (.int a_l2)), (3, .inl (.int a_l3)), (4, .inl (.int a_l4)), (5, .inl (.int a_l5)), (6, .inl (.int a_l6)), (7, .inl (.int a_l7)), (8, .inl (.ref 130))]) rfl rfl ?_
                  refine sf_iconst sf_c1 (fun z230 ez230 => ?_)
                  refine sf_ireturn rfl rfl ?_
                  exact hR _ _ hI0 hs0 (by omega) (by omega) (by first | (refine Or.inl ⟨by omega, ?_⟩; omega) | (refine Or.inr (Or.inl ⟨by omega, ?_⟩); omega) | (refine Or.inr (Or.inr ⟨by omega, ?_⟩); omega)) (by first | exact Or.inl ⟨by omega, rfl⟩ | exact Or.inr ⟨by omega, u14⟩) (by first | exact Or.inl ⟨by omega, rfl⟩ | exact Or.inr ⟨by omega, u15⟩) (by first | exact Or.inl ⟨by omega, rfl⟩ | exact Or.inr ⟨by omega, u16⟩) (by first | exact Or.inl ⟨by omega, rfl⟩ | exact Or.inr ⟨by omega, u17⟩) (by first | exact Or.inl ⟨by omega, rfl⟩ | exact Or.inr ⟨by omega, u18⟩) (by first | exact Or.inl ⟨by omega, rfl⟩ | exact Or.inr ⟨by omega, u19⟩) (by first | exact Or.inl ⟨by omega, rfl⟩ | exact Or.inr ⟨by omega, u20⟩)
                · refine sf_iload rfl ?_
                  refine sf_iload rfl ?_
                  refine sf_f2_gt (fun h231 => ?_) (fun h231 => ?_)
                  · refine sf_iconst sf_c0 (fun z232 ez232 => ?_)
                    refine sf_zreturn (by omega) rfl rfl ?_
                    refine sf_f1_eq (fun h233 => ?_) (fun h233 => absurd h233 (by omega))
                    refine sf_iconst sf_c0 (fun z234 ez234 => ?_)
                    refine sf_call1 rfl rfl rfl ?_
                    refine sf_sp (L := [(0, .inl (.int z234))]) rfl rfl ?_
                    refine sf_iload rfl ?_
                    refine sf_f1_eq (fun h235 => ?_) (fun h235 => absurd h235 (by omega))
                    refine sf_throw rfl rfl ?_
                    refine sf_xout rfl rfl ?_
                    refine sf_xhh (L' := [(0, .inl (.ref 0)), (1, .inl (.int a_l1)), (2, .inl (.int a_l2)), (3, .inl (.int a_l3)), (4, .inl (.int a_l4)), (5, .inl (.int a_l5)), (6, .inl (.int a_l6)), (7, .inl (.int a_l7)), (8, .inl (.ref 130))]) rfl rfl ?_
                    refine sf_iconst sf_c1 (fun z236 ez236 => ?_)
                    refine sf_ireturn rfl rfl ?_
                    exact hR _ _ hI0 hs0 (by omega) (by omega) (by first | (refine Or.inl ⟨by omega, ?_⟩; omega) | (refine Or.inr (Or.inl ⟨by omega, ?_⟩); omega) | (refine Or.inr (Or.inr ⟨by omega, ?_⟩); omega)) (by first | exact Or.inl ⟨by omega, rfl⟩ | exact Or.inr ⟨by omega, u14⟩) (by first | exact Or.inl ⟨by omega, rfl⟩ | exact Or.inr ⟨by omega, u15⟩) (by first | exact Or.inl ⟨by omega, rfl⟩ | exact Or.inr ⟨by omega, u16⟩) (by first | exact Or.inl ⟨by omega, rfl⟩ | exact Or.inr ⟨by omega, u17⟩) (by first | exact Or.inl ⟨by omega, rfl⟩ | exact Or.inr ⟨by omega, u18⟩) (by first | exact Or.inl ⟨by omega, rfl⟩ | exact Or.inr ⟨by omega, u19⟩) (by first | exact Or.inl ⟨by omega, rfl⟩ | exact Or.inr ⟨by omega, u20⟩)
                  · refine sf_iconst sf_c1 (fun z237 ez237 => ?_)
                    refine sf_zreturn (by omega) rfl rfl ?_
                    refine sf_f1_eq (fun h238 => absurd h238 (by omega)) (fun h238 => ?_)
                    refine sf_iload rfl ?_
                    refine sf_iconst sf_c0 (fun z239 ez239 => ?_)
                    refine sf_iconst sf_c10000 (fun z240 ez240 => ?_)
                    refine sf_call3 rfl rfl rfl ?_
                    refine sf_sp (L := [(0, .inl (.int a_l5)), (1, .inl (.int z239)), (2, .inl (.int z240))]) rfl rfl ?_
                    refine sf_iload rfl ?_
                    refine sf_iload rfl ?_
                    refine sf_f2_gt (fun h241 => ?_) (fun h241 => ?_)
                    · refine sf_iconst sf_c0 (fun z242 ez242 => ?_)
                      refine sf_zreturn (by omega) rfl rfl ?_
                      refine sf_f1_eq (fun h243 => ?_) (fun h243 => absurd h243 (by omega))
                      refine sf_iconst sf_c0 (fun z244 ez244 => ?_)
                      refine sf_call1 rfl rfl rfl ?_
                      refine sf_sp (L := [(0, .inl (.int z244))]) rfl rfl ?_
                      refine sf_iload rfl ?_
                      refine sf_f1_eq (fun h245 => ?_) (fun h245 => absurd h245 (by omega))
                      refine sf_throw rfl rfl ?_
                      refine sf_xout rfl rfl ?_
                      refine sf_xhh (L' := [(0, .inl (.ref 0)), (1, .inl (.int a_l1)), (2, .inl (.int a_l2)), (3, .inl (.int a_l3)), (4, .inl (.int a_l4)), (5, .inl (.int a_l5)), (6, .inl (.int a_l6)), (7, .inl (.int a_l7)), (8, .inl (.ref 130))]) rfl rfl ?_
                      refine sf_iconst sf_c1 (fun z246 ez246 => ?_)
                      refine sf_ireturn rfl rfl ?_
                      exact hR _ _ hI0 hs0 (by omega) (by omega) (by first | (refine Or.inl ⟨by omega, ?_⟩; omega) | (refine Or.inr (Or.inl ⟨by omega, ?_⟩); omega) | (refine Or.inr (Or.inr ⟨by omega, ?_⟩); omega)) (by first | exact Or.inl ⟨by omega, rfl⟩ | exact Or.inr ⟨by omega, u14⟩) (by first | exact Or.inl ⟨by omega, rfl⟩ | exact Or.inr ⟨by omega, u15⟩) (by first | exact Or.inl ⟨by omega, rfl⟩ | exact Or.inr ⟨by omega, u16⟩) (by first | exact Or.inl ⟨by omega, rfl⟩ | exact Or.inr ⟨by omega, u17⟩) (by first | exact Or.inl ⟨by omega, rfl⟩ | exact Or.inr ⟨by omega, u18⟩) (by first | exact Or.inl ⟨by omega, rfl⟩ | exact Or.inr ⟨by omega, u19⟩) (by first | exact Or.inl ⟨by omega, rfl⟩ | exact Or.inr ⟨by omega, u20⟩)
                    · refine sf_iload rfl ?_
                      refine sf_iload rfl ?_
                      refine sf_f2_gt (fun h247 => ?_) (fun h247 => ?_)
                      · refine sf_iconst sf_c0 (fun z248 ez248 => ?_)
                        refine sf_zreturn (by omega) rfl rfl ?_
                        refine sf_f1_eq (fun h249 => ?_) (fun h249 => absurd h249 (by omega))
                        refine sf_iconst sf_c0 (fun z250 ez250 => ?_)
                        refine sf_call1 rfl rfl rfl ?_
                        refine sf_sp (L := [(0, .inl (.int z250))]) rfl rfl ?_
                        refine sf_iload rfl ?_
                        refine sf_f1_eq (fun h251 => ?_) (fun h251 => absurd h251 (by omega))
                        refine sf_throw rfl rfl ?_
                        refine sf_xout rfl rfl ?_
                        refine sf_xhh (L' := [(0, .inl (.ref 0)), (1, .inl (.int a_l1)), (2, .inl (.int a_l2)), (3, .inl (.int a_l3)), (4, .inl (.int a_l4)), (5, .inl (.int a_l5)), (6, .inl (.int a_l6)), (7, .inl (.int a_l7)), (8, .inl (.ref 130))]) rfl rfl ?_
                        refine sf_iconst sf_c1 (fun z252 ez252 => ?_)
                        refine sf_ireturn rfl rfl ?_
                        exact hR _ _ hI0 hs0 (by omega) (by omega) (by first | (refine Or.inl ⟨by omega, ?_⟩; omega) | (refine Or.inr (Or.inl ⟨by omega, ?_⟩); omega) | (refine Or.inr (Or.inr ⟨by omega, ?_⟩); omega)) (by first | exact Or.inl ⟨by omega, rfl⟩ | exact Or.inr ⟨by omega, u14⟩) (by first | exact Or.inl ⟨by omega, rfl⟩ | exact Or.inr ⟨by omega, u15⟩) (by first | exact Or.inl ⟨by omega, rfl⟩ | exact Or.inr ⟨by omega, u16⟩) (by first | exact Or.inl ⟨by omega, rfl⟩ | exact Or.inr ⟨by omega, u17⟩) (by first | exact Or.inl ⟨by omega, rfl⟩ | exact Or.inr ⟨by omega, u18⟩) (by first | exact Or.inl ⟨by omega, rfl⟩ | exact Or.inr ⟨by omega, u19⟩) (by first | exact Or.inl ⟨by omega, rfl⟩ | exact Or.inr ⟨by omega, u20⟩)
                      · refine sf_iconst sf_c1 (fun z253 ez253 => ?_)
                        refine sf_zreturn (by omega) rfl rfl ?_
                        refine sf_f1_eq (fun h254 => absurd h254 (by omega)) (fun h254 => ?_)
                        refine sf_iconst sf_c1 (fun z255 ez255 => ?_)
                        refine sf_call1 rfl rfl rfl ?_
                        refine sf_sp (L := [(0, .inl (.int z255))]) rfl rfl ?_
                        refine sf_iload rfl ?_
                        refine sf_f1_eq (fun h256 => absurd h256 (by omega)) (fun h256 => ?_)
                        refine sf_vreturn rfl rfl ?_
                        refine sf_iload rfl ?_
                        refine sf_call1 rfl rfl rfl ?_
                        refine sf_sp (L := [(0, .inl (.int a_l6))]) rfl rfl ?_
                        refine sf_iload rfl ?_
                        refine sf_iconst sf_c10000 (fun z257 ez257 => ?_)
                        refine sf_call2 rfl rfl rfl ?_
                        refine sf_sp (L := [(0, .inl (.int a_l6)), (1, .inl (.int z257))]) rfl rfl ?_
                        refine sf_iconst sf_c0 (fun z258 ez258 => ?_)
                        refine sf_iload rfl ?_
                        refine sf_f2_gt (fun h259 => ?_) (fun h259 => ?_)
                        · refine sf_iconst sf_c0 (fun z260 ez260 => ?_)
                          refine sf_zreturn (by omega) rfl rfl ?_
                          refine sf_zreturn (by omega) rfl rfl ?_
                          refine sf_f1_eq (fun h261 => ?_) (fun h261 => absurd h261 (by omega))
                          refine sf_iconst sf_c0 (fun z262 ez262 => ?_)
                          refine sf_call1 rfl rfl rfl ?_
                          refine sf_sp (L := [(0, .inl (.int z262))]) rfl rfl ?_
                          refine sf_iload rfl ?_
                          refine sf_f1_eq (fun h263 => ?_) (fun h263 => absurd h263 (by omega))
                          refine sf_throw rfl rfl ?_
                          refine sf_xout rfl rfl ?_
                          refine sf_xhh (L' := [(0, .inl (.ref 0)), (1, .inl (.int a_l1)), (2, .inl (.int a_l2)), (3, .inl (.int a_l3)), (4, .inl (.int a_l4)), (5, .inl (.int a_l5)), (6, .inl (.int a_l6)), (7, .inl (.int a_l7)), (8, .inl (.ref 130))]) rfl rfl ?_
                          refine sf_iconst sf_c1 (fun z264 ez264 => ?_)
                          refine sf_ireturn rfl rfl ?_
                          exact hR _ _ hI0 hs0 (by omega) (by omega) (by first | (refine Or.inl ⟨by omega, ?_⟩; omega) | (refine Or.inr (Or.inl ⟨by omega, ?_⟩); omega) | (refine Or.inr (Or.inr ⟨by omega, ?_⟩); omega)) (by first | exact Or.inl ⟨by omega, rfl⟩ | exact Or.inr ⟨by omega, u14⟩) (by first | exact Or.inl ⟨by omega, rfl⟩ | exact Or.inr ⟨by omega, u15⟩) (by first | exact Or.inl ⟨by omega, rfl⟩ | exact Or.inr ⟨by omega, u16⟩) (by first | exact Or.inl ⟨by omega, rfl⟩ | exact Or.inr ⟨by omega, u17⟩) (by first | exact Or.inl ⟨by omega, rfl⟩ | exact Or.inr ⟨by omega, u18⟩) (by first | exact Or.inl ⟨by omega, rfl⟩ | exact Or.inr ⟨by omega, u19⟩) (by first | exact Or.inl ⟨by omega, rfl⟩ | exact Or.inr ⟨by omega, u20⟩)
                        · refine sf_iload rfl ?_
                          refine sf_iload rfl ?_
                          refine sf_f2_ge (fun h265 => ?_) (fun h265 => ?_)
                          · refine sf_iconst sf_c0 (fun z266 ez266 => ?_)
                            refine sf_zreturn (by omega) rfl rfl ?_
                            refine sf_zreturn (by omega) rfl rfl ?_
                            refine sf_f1_eq (fun h267 => ?_) (fun h267 => absurd h267 (by omega))
                            refine sf_iconst sf_c0 (fun z268 ez268 => ?_)
                            refine sf_call1 rfl rfl rfl ?_
                            refine sf_sp (L := [(0, .inl (.int z268))]) rfl rfl ?_
                            refine sf_iload rfl ?_
                            refine sf_f1_eq (fun h269 => ?_) (fun h269 => absurd h269 (by omega))
                            refine sf_throw rfl rfl ?_
                            refine sf_xout rfl rfl ?_
                            refine sf_xhh (L' := [(0, .inl (.ref 0)), (1, .inl (.int a_l1)), (2, .inl (.int a_l2)), (3, .inl (.int a_l3)), (4, .inl (.int a_l4)), (5, .inl (.int a_l5)), (6, .inl (.int a_l6)), (7, .inl (.int a_l7)), (8, .inl (.ref 130))]) rfl rfl ?_
                            refine sf_iconst sf_c1 (fun z270 ez270 => ?_)
                            refine sf_ireturn rfl rfl ?_
                            exact hR _ _ hI0 hs0 (by omega) (by omega) (by first | (refine Or.inl ⟨by omega, ?_⟩; omega) | (refine Or.inr (Or.inl ⟨by omega, ?_⟩); omega) | (refine Or.inr (Or.inr ⟨by omega, ?_⟩); omega)) (by first | exact Or.inl ⟨by omega, rfl⟩ | exact Or.inr ⟨by omega, u14⟩) (by first | exact Or.inl ⟨by omega, rfl⟩ | exact Or.inr ⟨by omega, u15⟩) (by first | exact Or.inl ⟨by omega, rfl⟩ | exact Or.inr ⟨by omega, u16⟩) (by first | exact Or.inl ⟨by omega, rfl⟩ | exact Or.inr ⟨by omega, u17⟩) (by first | exact Or.inl ⟨by omega, rfl⟩ | exact Or.inr ⟨by omega, u18⟩) (by first | exact Or.inl ⟨by omega, rfl⟩ | exact Or.inr ⟨by omega, u19⟩) (by first | exact Or.inl ⟨by omega, rfl⟩ | exact Or.inr ⟨by omega, u20⟩)
                          · refine sf_iconst sf_c1 (fun z271 ez271 => ?_)
                            refine sf_zreturn (by omega) rfl rfl ?_
                            refine sf_zreturn (by omega) rfl rfl ?_
                            refine sf_f1_eq (fun h272 => absurd h272 (by omega)) (fun h272 => ?_)
                            refine sf_iload rfl ?_
                            refine sf_call1 rfl rfl rfl ?_
                            refine sf_sp (L := [(0, .inl (.int a_l7))]) rfl rfl ?_
                            refine sf_iload rfl ?_
                            refine sf_iconst sf_c10000 (fun z273 ez273 => ?_)
                            refine sf_call2 rfl rfl rfl ?_
                            refine sf_sp (L := [(0, .inl (.int a_l7)), (1, .inl (.int z273))]) rfl rfl ?_
                            refine sf_iconst sf_c0 (fun z274 ez274 => ?_)
                            refine sf_iload rfl ?_
                            refine sf_f2_gt (fun h275 => ?_) (fun h275 => ?_)
                            · refine sf_iconst sf_c0 (fun z276 ez276 => ?_)
                              refine sf_zreturn (by omega) rfl rfl ?_
                              refine sf_zreturn (by omega) rfl rfl ?_
                              refine sf_f1_eq (fun h277 => ?_) (fun h277 => absurd h277 (by omega))
                              refine sf_iconst sf_c0 (fun z278 ez278 => ?_)
                              refine sf_call1 rfl rfl rfl ?_
                              refine sf_sp (L := [(0, .inl (.int z278))]) rfl rfl ?_
                              refine sf_iload rfl ?_
                              refine sf_f1_eq (fun h279 => ?_) (fun h279 => absurd h279 (by omega))
                              refine sf_throw rfl rfl ?_
                              refine sf_xout rfl rfl ?_
                              refine sf_xhh (L' := [(0, .inl (.ref 0)), (1, .inl (.int a_l1)), (2, .inl (.int a_l2)), (3, .inl (.int a_l3)), (4, .inl (.int a_l4)), (5, .inl (.int a_l5)), (6, .inl (.int a_l6)), (7, .inl (.int a_l7)), (8, .inl (.ref 130))]) rfl rfl ?_
                              refine sf_iconst sf_c1 (fun z280 ez280 => ?_)
                              refine sf_ireturn rfl rfl ?_
                              exact hR _ _ hI0 hs0 (by omega) (by omega) (by first | (refine Or.inl ⟨by omega, ?_⟩; omega) | (refine Or.inr (Or.inl ⟨by omega, ?_⟩); omega) | (refine Or.inr (Or.inr ⟨by omega, ?_⟩); omega)) (by first | exact Or.inl ⟨by omega, rfl⟩ | exact Or.inr ⟨by omega, u14⟩) (by first | exact Or.inl ⟨by omega, rfl⟩ | exact Or.inr ⟨by omega, u15⟩) (by first | exact Or.inl ⟨by omega, rfl⟩ | exact Or.inr ⟨by omega, u16⟩) (by first | exact Or.inl ⟨by omega, rfl⟩ | exact Or.inr ⟨by omega, u17⟩) (by first | exact Or.inl ⟨by omega, rfl⟩ | exact Or.inr ⟨by omega, u18⟩) (by first | exact Or.inl ⟨by omega, rfl⟩ | exact Or.inr ⟨by omega, u19⟩) (by first | exact Or.inl ⟨by omega, rfl⟩ | exact Or.inr ⟨by omega, u20⟩)
                            · refine sf_iload rfl ?_
                              refine sf_iload rfl ?_
                              refine sf_f2_ge (fun h281 => ?_) (fun h281 => ?_)
                              · refine sf_iconst sf_c0 (fun z282 ez282 => ?_)
                                refine sf_zreturn (by omega) rfl rfl ?_
                                refine sf_zreturn (by omega) rfl rfl ?_
                                refine sf_f1_eq (fun h283 => ?_) (fun h283 => absurd h283 (by omega))
                                refine sf_iconst sf_c0 (fun z284 ez284 => ?_)
                                refine sf_call1 rfl rfl rfl ?_
                                refine sf_sp (L := [(0, .inl (.int z284))]) rfl rfl ?_
                                refine sf_iload rfl ?_
                                refine sf_f1_eq (fun h285 => ?_) (fun h285 => absurd h285 (by omega))
                                refine sf_throw rfl rfl ?_
                                refine sf_xout rfl rfl ?_
                                refine sf_xhh (L' := [(0, .inl (.ref 0)), (1, .inl (.int a_l1)), (2, .inl (.int a_l2)), (3, .inl (.int a_l3)), (4, .inl (.int a_l4)), (5, .inl (.int a_l5)), (6, .inl (.int a_l6)), (7, .inl (.int a_l7)), (8, .inl (.ref 130))]) rfl rfl ?_
                                refine sf_iconst sf_c1 (fun z286 ez286 => ?_)
                                refine sf_ireturn rfl rfl ?_
                                exact hR _ _ hI0 hs0 (by omega) (by omega) (by first | (refine Or.inl ⟨by omega, ?_⟩; omega) | (refine Or.inr (Or.inl ⟨by omega, ?_⟩); omega) | (refine Or.inr (Or.inr ⟨by omega, ?_⟩); omega)) (by first | exact Or.inl ⟨by omega, rfl⟩ | exact Or.inr ⟨by omega, u14⟩) (by first | exact Or.inl ⟨by omega, rfl⟩ | exact Or.inr ⟨by omega, u15⟩) (by first | exact Or.inl ⟨by omega, rfl⟩ | exact Or.inr ⟨by omega, u16⟩) (by first | exact Or.inl ⟨by omega, rfl⟩ | exact Or.inr ⟨by omega, u17⟩) (by first | exact Or.inl ⟨by omega, rfl⟩ | exact Or.inr ⟨by omega, u18⟩) (by first | exact Or.inl ⟨by omega, rfl⟩ | exact Or.inr ⟨by omega, u19⟩) (by first | exact Or.inl ⟨by omega, rfl⟩ | exact Or.inr ⟨by omega, u20⟩)
                              · refine sf_iconst sf_c1 (fun z287 ez287 => ?_)
                                refine sf_zreturn (by omega) rfl rfl ?_
                                refine sf_zreturn (by omega) rfl rfl ?_
                                refine sf_f1_eq (fun h288 => absurd h288 (by omega)) (fun h288 => ?_)
                                refine sf_iload rfl ?_
                                refine sf_iload rfl ?_
                                refine sf_f2_gt (fun h289 => ?_) (fun h289 => ?_)
                                · refine sf_iconst sf_c0 (fun z290 ez290 => ?_)
                                  refine sf_call1 rfl rfl rfl ?_
                                  refine sf_sp (L := [(0, .inl (.int z290))]) rfl rfl ?_
                                  refine sf_iload rfl ?_
                                  refine sf_f1_eq (fun h291 => ?_) (fun h291 => absurd h291 (by omega))
                                  refine sf_throw rfl rfl ?_
                                  refine sf_xout rfl rfl ?_
                                  refine sf_xhh (L' := [(0, .inl (.ref 0)), (1, .inl (.int a_l1)), (2, .inl (.int a_l2)), (3, .inl (.int a_l3)), (4, .inl (.int a_l4)), (5, .inl (.int a_l5)), (6, .inl (.int a_l6)), (7, .inl (.int a_l7)), (8, .inl (.ref 130))]) rfl rfl ?_
                                  refine sf_iconst sf_c1 (fun z292 ez292 => ?_)
                                  refine sf_ireturn rfl rfl ?_
                                  exact hR _ _ hI0 hs0 (by omega) (by omega) (by first | (refine Or.inl ⟨by omega, ?_⟩; omega) | (refine Or.inr (Or.inl ⟨by omega, ?_⟩); omega) | (refine Or.inr (Or.inr ⟨by omega, ?_⟩); omega)) (by first | exact Or.inl ⟨by omega, rfl⟩ | exact Or.inr ⟨by omega, u14⟩) (by first | exact Or.inl ⟨by omega, rfl⟩ | exact Or.inr ⟨by omega, u15⟩) (by first | exact Or.inl ⟨by omega, rfl⟩ | exact Or.inr ⟨by omega, u16⟩) (by first | exact Or.inl ⟨by omega, rfl⟩ | exact Or.inr ⟨by omega, u17⟩) (by first | exact Or.inl ⟨by omega, rfl⟩ | exact Or.inr ⟨by omega, u18⟩) (by first | exact Or.inl ⟨by omega, rfl⟩ | exact Or.inr ⟨by omega, u19⟩) (by first | exact Or.inl ⟨by omega, rfl⟩ | exact Or.inr ⟨by omega, u20⟩)
                                · refine sf_iconst sf_c1 (fun z293 ez293 => ?_)
                                  refine sf_call1 rfl rfl rfl ?_
                                  refine sf_sp (L := [(0, .inl (.int z293))]) rfl rfl ?_
                                  refine sf_iload rfl ?_
                                  refine sf_f1_eq (fun h294 => absurd h294 (by omega)) (fun h294 => ?_)
                                  refine sf_vreturn rfl rfl ?_
                                  refine sf_aload rfl ?_
                                  refine sf_getr hI0 rfl rfl ?_
                                  refine sf_geti hI0 rfl rfl (fun v295 lv295 uv295 ev295 => ?_)
                                  refine sf_iconst sf_c40 (fun z296 ez296 => ?_)
                                  refine sf_f2_ge (fun h297 => ?_) (fun h297 => ?_)
                                  · refine sf_iconst sf_c0 (fun z298 ez298 => ?_)
                                    refine sf_call1 rfl rfl rfl ?_
                                    refine sf_sp (L := [(0, .inl (.int z298))]) rfl rfl ?_
                                    refine sf_iload rfl ?_
                                    refine sf_f1_eq (fun h299 => ?_) (fun h299 => absurd h299 (by omega))
                                    refine sf_throw rfl rfl ?_
                                    refine sf_xout rfl rfl ?_
                                    refine sf_xhm rfl ?_
                                    refine sf_xhh (L' := [(0, .inl (.ref 0)), (1, .inl (.int a_l1)), (2, .inl (.int a_l2)), (3, .inl (.int a_l3)), (4, .inl (.int a_l4)), (5, .inl (.int a_l5)), (6, .inl (.int a_l6)), (7, .inl (.int a_l7)), (8, .inl (.ref 130))]) rfl rfl ?_
                                    refine sf_iconst sf_c2 (fun z300 ez300 => ?_)
                                    refine sf_ireturn rfl rfl ?_
                                    exact hR _ _ hI0 hs0 (by omega) (by omega) (by first | (refine Or.inl ⟨by omega, ?_⟩; omega) | (refine Or.inr (Or.inl ⟨by omega, ?_⟩); omega) | (refine Or.inr (Or.inr ⟨by omega, ?_⟩); omega)) (by first | exact Or.inl ⟨by omega, rfl⟩ | exact Or.inr ⟨by omega, u14⟩) (by first | exact Or.inl ⟨by omega, rfl⟩ | exact Or.inr ⟨by omega, u15⟩) (by first | exact Or.inl ⟨by omega, rfl⟩ | exact Or.inr ⟨by omega, u16⟩) (by first | exact Or.inl ⟨by omega, rfl⟩ | exact Or.inr ⟨by omega, u17⟩) (by first | exact Or.inl ⟨by omega, rfl⟩ | exact Or.inr ⟨by omega, u18⟩) (by first | exact Or.inl ⟨by omega, rfl⟩ | exact Or.inr ⟨by omega, u19⟩) (by first | exact Or.inl ⟨by omega, rfl⟩ | exact Or.inr ⟨by omega, u20⟩)
                                  · refine sf_iconst sf_c1 (fun z301 ez301 => ?_)
                                    refine sf_call1 rfl rfl rfl ?_
                                    refine sf_sp (L := [(0, .inl (.int z301))]) rfl rfl ?_
                                    refine sf_iload rfl ?_
                                    refine sf_f1_eq (fun h302 => absurd h302 (by omega)) (fun h302 => ?_)
                                    refine sf_vreturn rfl rfl ?_
                                    refine sf_aload rfl ?_
                                    refine sf_getr hI0 rfl rfl ?_
                                    refine sf_iload rfl ?_
                                    refine sf_iload rfl ?_
                                    refine sf_iload rfl ?_
                                    refine sf_iload rfl ?_
                                    refine sf_iload rfl ?_
                                    refine sf_iload rfl ?_
                                    refine sf_iload rfl ?_
                                    refine sf_call8 rfl rfl rfl ?_
                                    refine sf_rv hI0 rfl ?_
                                    refine sf_sp (L := [(0, .inl (.ref 13)), (1, .inl (.int a_l1)), (2, .inl (.int a_l2)), (3, .inl (.int a_l3)), (4, .inl (.int a_l4)), (5, .inl (.int a_l5)), (6, .inl (.int a_l6)), (7, .inl (.int a_l7))]) rfl rfl ?_
                                    refine sf_aload rfl ?_
                                    refine sf_geti hI0 rfl rfl (fun v303 lv303 uv303 ev303 => ?_)
                                    refine sf_istore (L' := [(0, .inl (.ref 13)), (1, .inl (.int a_l1)), (2, .inl (.int a_l2)), (3, .inl (.int a_l3)), (4, .inl (.int a_l4)), (5, .inl (.int a_l5)), (6, .inl (.int a_l6)), (7, .inl (.int a_l7))]) rfl ?_
                                    refine sf_aload rfl ?_
                                    refine sf_getr hI0 rfl rfl ?_
                                    refine sf_iload rfl ?_
                                    refine sf_iload rfl ?_
                                    refine sf_iast hI0 hs0 rfl (by omega) (sf_bd _) rfl rfl (fun w304 Iw304 sw304 kw304 uw304 => ?_)
                                    have c305 := sf_mf kw304 (p := 13) (j := 1) rfl
                                    have c306 := sf_ma kw304 (p := 15) rfl
                                    have c307 := sf_ma kw304 (p := 16) rfl
                                    have c308 := sf_ma kw304 (p := 17) rfl
                                    have c309 := sf_ma kw304 (p := 18) rfl
                                    have c310 := sf_ma kw304 (p := 19) rfl
                                    have c311 := sf_ma kw304 (p := 20) rfl
                                    clear kw304
                                    have u14 := uw304
                                    rw [show v303.toInt = (sf_f w0 13 1).toInt by omega] at u14
                                    skip
                                    refine sf_aload rfl ?_
                                    refine sf_getr Iw304 rfl rfl ?_
                                    refine sf_iload rfl ?_
                                    refine sf_iload rfl ?_
                                    refine sf_iast Iw304 sw304 rfl (by omega) (sf_bd _) rfl rfl (fun w312 Iw312 sw312 kw312 uw312 => ?_)
                                    have c313 := sf_mf kw312 (p := 13) (j := 1) rfl
                                    have c314 := sf_ma kw312 (p := 14) rfl
                                    have c315 := sf_ma kw312 (p := 16) rfl
                                    have c316 := sf_ma kw312 (p := 17) rfl
                                    have c317 := sf_ma kw312 (p := 18) rfl
                                    have c318 := sf_ma kw312 (p := 19) rfl
                                    have c319 := sf_ma kw312 (p := 20) rfl
                                    clear kw312
                                    have u15 := uw312
                                    rw [show v303.toInt = (sf_f w0 13 1).toInt by omega] at u15
                                    rw [c306] at u15
                                    refine sf_aload rfl ?_
                                    refine sf_getr Iw312 rfl rfl ?_
                                    refine sf_iload rfl ?_
                                    refine sf_iload rfl ?_
                                    refine sf_iast Iw312 sw312 rfl (by omega) (sf_bd _) rfl rfl (fun w320 Iw320 sw320 kw320 uw320 => ?_)
                                    have c321 := sf_mf kw320 (p := 13) (j := 1) rfl
                                    have c322 := sf_ma kw320 (p := 14) rfl
                                    have c323 := sf_ma kw320 (p := 15) rfl
                                    have c324 := sf_ma kw320 (p := 17) rfl
                                    have c325 := sf_ma kw320 (p := 18) rfl
                                    have c326 := sf_ma kw320 (p := 19) rfl
                                    have c327 := sf_ma kw320 (p := 20) rfl
                                    clear kw320
                                    have u16 := uw320
                                    rw [show v303.toInt = (sf_f w0 13 1).toInt by omega] at u16
                                    rw [c315, c307] at u16
                                    refine sf_aload rfl ?_
                                    refine sf_getr Iw320 rfl rfl ?_
                                    refine sf_iload rfl ?_
                                    refine sf_iload rfl ?_
                                    refine sf_iast Iw320 sw320 rfl (by omega) (sf_bd _) rfl rfl (fun w328 Iw328 sw328 kw328 uw328 => ?_)
                                    have c329 := sf_mf kw328 (p := 13) (j := 1) rfl
                                    have c330 := sf_ma kw328 (p := 14) rfl
                                    have c331 := sf_ma kw328 (p := 15) rfl
                                    have c332 := sf_ma kw328 (p := 16) rfl
                                    have c333 := sf_ma kw328 (p := 18) rfl
                                    have c334 := sf_ma kw328 (p := 19) rfl
                                    have c335 := sf_ma kw328 (p := 20) rfl
                                    clear kw328
                                    have u17 := uw328
                                    rw [show v303.toInt = (sf_f w0 13 1).toInt by omega] at u17
                                    rw [c324, c316, c308] at u17
                                    refine sf_aload rfl ?_
                                    refine sf_getr Iw328 rfl rfl ?_
                                    refine sf_iload rfl ?_
                                    refine sf_iload rfl ?_
                                    refine sf_iast Iw328 sw328 rfl (by omega) (sf_bd _) rfl rfl (fun w336 Iw336 sw336 kw336 uw336 => ?_)
                                    have c337 := sf_mf kw336 (p := 13) (j := 1) rfl
                                    have c338 := sf_ma kw336 (p := 14) rfl
                                    have c339 := sf_ma kw336 (p := 15) rfl
                                    have c340 := sf_ma kw336 (p := 16) rfl
                                    have c341 := sf_ma kw336 (p := 17) rfl
                                    have c342 := sf_ma kw336 (p := 19) rfl
                                    have c343 := sf_ma kw336 (p := 20) rfl
                                    clear kw336
                                    have u18 := uw336
                                    rw [show v303.toInt = (sf_f w0 13 1).toInt by omega] at u18
                                    rw [c333, c325, c317, c309] at u18
                                    refine sf_aload rfl ?_
                                    refine sf_getr Iw336 rfl rfl ?_
                                    refine sf_iload rfl ?_
                                    refine sf_iload rfl ?_
                                    refine sf_iast Iw336 sw336 rfl (by omega) (sf_bd _) rfl rfl (fun w344 Iw344 sw344 kw344 uw344 => ?_)
                                    have c345 := sf_mf kw344 (p := 13) (j := 1) rfl
                                    have c346 := sf_ma kw344 (p := 14) rfl
                                    have c347 := sf_ma kw344 (p := 15) rfl
                                    have c348 := sf_ma kw344 (p := 16) rfl
                                    have c349 := sf_ma kw344 (p := 17) rfl
                                    have c350 := sf_ma kw344 (p := 18) rfl
                                    have c351 := sf_ma kw344 (p := 20) rfl
                                    clear kw344
                                    have u19 := uw344
                                    rw [show v303.toInt = (sf_f w0 13 1).toInt by omega] at u19
                                    rw [c342, c334, c326, c318, c310] at u19
                                    refine sf_aload rfl ?_
                                    refine sf_getr Iw344 rfl rfl ?_
                                    refine sf_iload rfl ?_
                                    refine sf_iload rfl ?_
                                    refine sf_iast Iw344 sw344 rfl (by omega) (sf_bd _) rfl rfl (fun w352 Iw352 sw352 kw352 uw352 => ?_)
                                    have c353 := sf_mf kw352 (p := 13) (j := 1) rfl
                                    have c354 := sf_ma kw352 (p := 14) rfl
                                    have c355 := sf_ma kw352 (p := 15) rfl
                                    have c356 := sf_ma kw352 (p := 16) rfl
                                    have c357 := sf_ma kw352 (p := 17) rfl
                                    have c358 := sf_ma kw352 (p := 18) rfl
                                    have c359 := sf_ma kw352 (p := 19) rfl
                                    clear kw352
                                    have u20 := uw352
                                    rw [show v303.toInt = (sf_f w0 13 1).toInt by omega] at u20
                                    rw [c351, c343, c335, c327, c319, c311] at u20
                                    refine sf_aload rfl ?_
                                    refine sf_dup rfl ?_
                                    refine sf_geti Iw352 rfl rfl (fun v360 lv360 uv360 ev360 => ?_)
                                    rw [c353, c345, c337, c329, c321, c313, c305] at ev360
                                    refine sf_iconst sf_c1 (fun z361 ez361 => ?_)
                                    refine sf_iadd (by omega) (fun v362 ev362 => ?_)
                                    refine sf_puti Iw352 sw352 rfl rfl (by omega) rfl rfl rfl (fun w363 Iw363 sw363 kw363 uw363 => ?_)
                                    have c364 := sf_ma kw363 (p := 14) rfl
                                    have c365 := sf_ma kw363 (p := 15) rfl
                                    have c366 := sf_ma kw363 (p := 16) rfl
                                    have c367 := sf_ma kw363 (p := 17) rfl
                                    have c368 := sf_ma kw363 (p := 18) rfl
                                    have c369 := sf_ma kw363 (p := 19) rfl
                                    have c370 := sf_ma kw363 (p := 20) rfl
                                    clear kw363
                                    refine sf_iload rfl ?_
                                    refine sf_ireturn rfl rfl ?_
                                    refine sf_ireturn rfl rfl ?_
                                    refine sf_i2l (fun v371 ev371 => ?_)
                                    refine sf_last Iw363 sw363 rfl (by omega) rfl rfl (fun w372 Iw372 sw372 kw372 uw372 => ?_)
                                    have c373 := sf_mf kw372 (p := 13) (j := 1) rfl
                                    have c374 := sf_ma kw372 (p := 14) rfl
                                    have c375 := sf_ma kw372 (p := 15) rfl
                                    have c376 := sf_ma kw372 (p := 16) rfl
                                    have c377 := sf_ma kw372 (p := 17) rfl
                                    have c378 := sf_ma kw372 (p := 18) rfl
                                    have c379 := sf_ma kw372 (p := 19) rfl
                                    have c380 := sf_ma kw372 (p := 20) rfl
                                    clear kw372
                                    have go : (sf_l w372 130 0).toInt = v371.toInt := by rw [uw372, show z1.toInt.toNat = 0 by omega]; unfold vp_updL; rw [if_pos rfl]
                                    refine sf_iconst sf_c0 (fun z381 ez381 => ?_)
                                    refine sf_ireturn rfl rfl ?_
                                    exact hR _ _ Iw372 sw372 (by omega) (by omega) (by rw [c373, uw363]; first | (refine Or.inl ⟨by omega, ?_⟩; omega) | (refine Or.inr (Or.inl ⟨by omega, ?_⟩); omega) | (refine Or.inr (Or.inr ⟨by omega, ?_⟩); omega)) (by rw [c374, c364, c354, c346, c338, c330, c322, c314]; first | exact Or.inl ⟨by omega, rfl⟩ | exact Or.inr ⟨by omega, u14⟩) (by rw [c375, c365, c355, c347, c339, c331, c323]; first | exact Or.inl ⟨by omega, rfl⟩ | exact Or.inr ⟨by omega, u15⟩) (by rw [c376, c366, c356, c348, c340, c332]; first | exact Or.inl ⟨by omega, rfl⟩ | exact Or.inr ⟨by omega, u16⟩) (by rw [c377, c367, c357, c349, c341]; first | exact Or.inl ⟨by omega, rfl⟩ | exact Or.inr ⟨by omega, u17⟩) (by rw [c378, c368, c358, c350]; first | exact Or.inl ⟨by omega, rfl⟩ | exact Or.inr ⟨by omega, u18⟩) (by rw [c379, c369, c359]; first | exact Or.inl ⟨by omega, rfl⟩ | exact Or.inr ⟨by omega, u19⟩) (by rw [c380, c370]; first | exact Or.inl ⟨by omega, rfl⟩ | exact Or.inr ⟨by omega, u20⟩)
def sm_W_rateFor_0_130 : List Nat := [130]
set_option maxRecDepth 100000 in
set_option maxHeartbeats 4000000 in
theorem sc_W_rateFor_0_130 {w0 : wq_W} (hI0 : sf_I w0) {rt : Option wq_V → wq_W → Prop} {xt : Nat → wq_W → Prop} {a_l1 : Int32} {a_l2 : Int32} {a_l3 : Int32}  (hR : ∀ (r : Int32) (w : wq_W), sf_I w → sf_m sm_W_rateFor_0_130 w0 w → 0 ≤ r.toInt → r.toInt ≤ 1 → (((r.toInt = 0 ∧ (0 ≤ a_l1.toInt ∧ a_l1.toInt < (sf_f w0 1 0).toInt ∧ 0 ≤ a_l2.toInt ∧ a_l2.toInt ≤ 7 ∧ 0 ≤ a_l3.toInt ∧ a_l3.toInt ≤ 9999) ∧ (sf_l w 130 0).toInt = sr_up (sf_a w0 2) (sr_G (sf_a w0 14) (sf_a w0 15) (sf_a w0 19) (sf_a w0 20) a_l2.toInt a_l3.toInt (sf_f w0 13 1).toInt.toNat) 6 a_l1.toInt) ∨ (r.toInt = 1 ∧ ¬ (0 ≤ a_l1.toInt ∧ a_l1.toInt < (sf_f w0 1 0).toInt ∧ 0 ≤ a_l2.toInt ∧ a_l2.toInt ≤ 7 ∧ 0 ≤ a_l3.toInt ∧ a_l3.toInt ≤ 9999)))) → rt (some (.inl (.int r))) w) : ks_W_rateFor [.inl (.ref 0), .inl (.int a_l1), .inl (.int a_l2), .inl (.int a_l3), .inl (.ref 130)] w0 rt xt := by
  have hs0 : sf_m sm_W_rateFor_0_130 w0 w0 := sf_m0
  refine sf_sp (L := [(0, .inl (.ref 0)), (1, .inl (.int a_l1)), (2, .inl (.int a_l2)), (3, .inl (.int a_l3)), (4, .inl (.ref 130))]) rfl rfl ?_
  refine sf_aload rfl ?_
  refine sf_iconst sf_c0 (fun z1 ez1 => ?_)
  refine sf_aload rfl ?_
  refine sf_iload rfl ?_
  refine sf_iload rfl ?_
  refine sf_iload rfl ?_
  refine sf_call4 rfl rfl rfl ?_
  refine sf_rv hI0 rfl ?_
  refine sf_sp (L := [(0, .inl (.ref 0)), (1, .inl (.int a_l1)), (2, .inl (.int a_l2)), (3, .inl (.int a_l3))]) rfl rfl ?_
  refine sf_aload rfl ?_
  refine sf_iload rfl ?_
  refine sf_call2 rfl rfl rfl ?_
  refine sf_rv hI0 rfl ?_
  refine sf_sp (L := [(0, .inl (.ref 0)), (1, .inl (.int a_l1))]) rfl rfl ?_
  refine sf_iload rfl ?_
  refine sf_aload rfl ?_
  refine sf_getr hI0 rfl rfl ?_
  refine sf_geti hI0 rfl rfl (fun v2 lv2 uv2 ev2 => ?_)
  refine sf_call2 rfl rfl rfl ?_
  refine sf_sp (L := [(0, .inl (.int a_l1)), (1, .inl (.int v2))]) rfl rfl ?_
  refine sf_iconst sf_c0 (fun z3 ez3 => ?_)
  refine sf_iload rfl ?_
  refine sf_f2_gt (fun h4 => ?_) (fun h4 => ?_)
  · refine sf_iconst sf_c0 (fun z5 ez5 => ?_)
    refine sf_zreturn (by omega) rfl rfl ?_
    refine sf_zreturn (by omega) rfl rfl ?_
    refine sf_f1_eq (fun h6 => ?_) (fun h6 => absurd h6 (by omega))
    refine sf_iconst sf_c0 (fun z7 ez7 => ?_)
    refine sf_call1 rfl rfl rfl ?_
    refine sf_sp (L := [(0, .inl (.int z7))]) rfl rfl ?_
    refine sf_iload rfl ?_
    refine sf_f1_eq (fun h8 => ?_) (fun h8 => absurd h8 (by omega))
    refine sf_throw rfl rfl ?_
    refine sf_xout rfl rfl ?_
    refine sf_xhh (L' := [(0, .inl (.ref 0)), (1, .inl (.int a_l1)), (2, .inl (.int a_l2)), (3, .inl (.int a_l3)), (4, .inl (.ref 130))]) rfl rfl ?_
    refine sf_iconst sf_c1 (fun z9 ez9 => ?_)
    refine sf_ireturn rfl rfl ?_
    exact hR _ _ hI0 hs0 (by omega) (by omega) (by first | (refine Or.inl ⟨by omega, ?_⟩; omega) | (refine Or.inr ⟨by omega, ?_⟩; omega))
  · refine sf_iload rfl ?_
    refine sf_iload rfl ?_
    refine sf_f2_ge (fun h10 => ?_) (fun h10 => ?_)
    · refine sf_iconst sf_c0 (fun z11 ez11 => ?_)
      refine sf_zreturn (by omega) rfl rfl ?_
      refine sf_zreturn (by omega) rfl rfl ?_
      refine sf_f1_eq (fun h12 => ?_) (fun h12 => absurd h12 (by omega))
      refine sf_iconst sf_c0 (fun z13 ez13 => ?_)
      refine sf_call1 rfl rfl rfl ?_
      refine sf_sp (L := [(0, .inl (.int z13))]) rfl rfl ?_
      refine sf_iload rfl ?_
      refine sf_f1_eq (fun h14 => ?_) (fun h14 => absurd h14 (by omega))
      refine sf_throw rfl rfl ?_
      refine sf_xout rfl rfl ?_
      refine sf_xhh (L' := [(0, .inl (.ref 0)), (1, .inl (.int a_l1)), (2, .inl (.int a_l2)), (3, .inl (.int a_l3)), (4, .inl (.ref 130))]) rfl rfl ?_
      refine sf_iconst sf_c1 (fun z15 ez15 => ?_)
      refine sf_ireturn rfl rfl ?_
      exact hR _ _ hI0 hs0 (by omega) (by omega) (by first | (refine Or.inl ⟨by omega, ?_⟩; omega) | (refine Or.inr ⟨by omega, ?_⟩; omega))
    · refine sf_iconst sf_c1 (fun z16 ez16 => ?_)
      refine sf_zreturn (by omega) rfl rfl ?_
      refine sf_zreturn (by omega) rfl rfl ?_
      refine sf_f1_eq (fun h17 => absurd h17 (by omega)) (fun h17 => ?_)
      refine sf_iload rfl ?_
      refine sf_call1 rfl rfl rfl ?_
      refine sf_sp (L := [(0, .inl (.int a_l2))]) rfl rfl ?_
      refine sf_iload rfl ?_
      refine sf_iconst sf_c8 (fun z18 ez18 => ?_)
      refine sf_call2 rfl rfl rfl ?_
      refine sf_sp (L := [(0, .inl (.int a_l2)), (1, .inl (.int z18))]) rfl rfl ?_
      refine sf_iconst sf_c0 (fun z19 ez19 => ?_)
      refine sf_iload rfl ?_
      refine sf_f2_gt (fun h20 => ?_) (fun h20 => ?_)
      · refine sf_iconst sf_c0 (fun z21 ez21 => ?_)
        refine sf_zreturn (by omega) rfl rfl ?_
        refine sf_zreturn (by omega) rfl rfl ?_
        refine sf_f1_eq (fun h22 => ?_) (fun h22 => absurd h22 (by omega))
        refine sf_iconst sf_c0 (fun z23 ez23 => ?_)
        refine sf_call1 rfl rfl rfl ?_
        refine sf_sp (L := [(0, .inl (.int z23))]) rfl rfl ?_
        refine sf_iload rfl ?_
        refine sf_f1_eq (fun h24 => ?_) (fun h24 => absurd h24 (by omega))
        refine sf_throw rfl rfl ?_
        refine sf_xout rfl rfl ?_
        refine sf_xhh (L' := [(0, .inl (.ref 0)), (1, .inl (.int a_l1)), (2, .inl (.int a_l2)), (3, .inl (.int a_l3)), (4, .inl (.ref 130))]) rfl rfl ?_
        refine sf_iconst sf_c1 (fun z25 ez25 => ?_)
        refine sf_ireturn rfl rfl ?_
        exact hR _ _ hI0 hs0 (by omega) (by omega) (by first | (refine Or.inl ⟨by omega, ?_⟩; omega) | (refine Or.inr ⟨by omega, ?_⟩; omega))
      · refine sf_iload rfl ?_
        refine sf_iload rfl ?_
        refine sf_f2_ge (fun h26 => ?_) (fun h26 => ?_)
        · refine sf_iconst sf_c0 (fun z27 ez27 => ?_)
          refine sf_zreturn (by omega) rfl rfl ?_
          refine sf_zreturn (by omega) rfl rfl ?_
          refine sf_f1_eq (fun h28 => ?_) (fun h28 => absurd h28 (by omega))
          refine sf_iconst sf_c0 (fun z29 ez29 => ?_)
          refine sf_call1 rfl rfl rfl ?_
          refine sf_sp (L := [(0, .inl (.int z29))]) rfl rfl ?_
          refine sf_iload rfl ?_
          refine sf_f1_eq (fun h30 => ?_) (fun h30 => absurd h30 (by omega))
          refine sf_throw rfl rfl ?_
          refine sf_xout rfl rfl ?_
          refine sf_xhh (L' := [(0, .inl (.ref 0)), (1, .inl (.int a_l1)), (2, .inl (.int a_l2)), (3, .inl (.int a_l3)), (4, .inl (.ref 130))]) rfl rfl ?_
          refine sf_iconst sf_c1 (fun z31 ez31 => ?_)
          refine sf_ireturn rfl rfl ?_
          exact hR _ _ hI0 hs0 (by omega) (by omega) (by first | (refine Or.inl ⟨by omega, ?_⟩; omega) | (refine Or.inr ⟨by omega, ?_⟩; omega))
        · refine sf_iconst sf_c1 (fun z32 ez32 => ?_)
          refine sf_zreturn (by omega) rfl rfl ?_
          refine sf_zreturn (by omega) rfl rfl ?_
          refine sf_f1_eq (fun h33 => absurd h33 (by omega)) (fun h33 => ?_)
          refine sf_iload rfl ?_
          refine sf_call1 rfl rfl rfl ?_
          refine sf_sp (L := [(0, .inl (.int a_l3))]) rfl rfl ?_
          refine sf_iload rfl ?_
          refine sf_iconst sf_c10000 (fun z34 ez34 => ?_)
          refine sf_call2 rfl rfl rfl ?_
          refine sf_sp (L := [(0, .inl (.int a_l3)), (1, .inl (.int z34))]) rfl rfl ?_
          refine sf_iconst sf_c0 (fun z35 ez35 => ?_)
          refine sf_iload rfl ?_
          refine sf_f2_gt (fun h36 => ?_) (fun h36 => ?_)
          · refine sf_iconst sf_c0 (fun z37 ez37 => ?_)
            refine sf_zreturn (by omega) rfl rfl ?_
            refine sf_zreturn (by omega) rfl rfl ?_
            refine sf_f1_eq (fun h38 => ?_) (fun h38 => absurd h38 (by omega))
            refine sf_iconst sf_c0 (fun z39 ez39 => ?_)
            refine sf_call1 rfl rfl rfl ?_
            refine sf_sp (L := [(0, .inl (.int z39))]) rfl rfl ?_
            refine sf_iload rfl ?_
            refine sf_f1_eq (fun h40 => ?_) (fun h40 => absurd h40 (by omega))
            refine sf_throw rfl rfl ?_
            refine sf_xout rfl rfl ?_
            refine sf_xhh (L' := [(0, .inl (.ref 0)), (1, .inl (.int a_l1)), (2, .inl (.int a_l2)), (3, .inl (.int a_l3)), (4, .inl (.ref 130))]) rfl rfl ?_
            refine sf_iconst sf_c1 (fun z41 ez41 => ?_)
            refine sf_ireturn rfl rfl ?_
            exact hR _ _ hI0 hs0 (by omega) (by omega) (by first | (refine Or.inl ⟨by omega, ?_⟩; omega) | (refine Or.inr ⟨by omega, ?_⟩; omega))
          · refine sf_iload rfl ?_
            refine sf_iload rfl ?_
            refine sf_f2_ge (fun h42 => ?_) (fun h42 => ?_)
            · refine sf_iconst sf_c0 (fun z43 ez43 => ?_)
              refine sf_zreturn (by omega) rfl rfl ?_
              refine sf_zreturn (by omega) rfl rfl ?_
              refine sf_f1_eq (fun h44 => ?_) (fun h44 => absurd h44 (by omega))
              refine sf_iconst sf_c0 (fun z45 ez45 => ?_)
              refine sf_call1 rfl rfl rfl ?_
              refine sf_sp (L := [(0, .inl (.int z45))]) rfl rfl ?_
              refine sf_iload rfl ?_
              refine sf_f1_eq (fun h46 => ?_) (fun h46 => absurd h46 (by omega))
              refine sf_throw rfl rfl ?_
              refine sf_xout rfl rfl ?_
              refine sf_xhh (L' := [(0, .inl (.ref 0)), (1, .inl (.int a_l1)), (2, .inl (.int a_l2)), (3, .inl (.int a_l3)), (4, .inl (.ref 130))]) rfl rfl ?_
              refine sf_iconst sf_c1 (fun z47 ez47 => ?_)
              refine sf_ireturn rfl rfl ?_
              exact hR _ _ hI0 hs0 (by omega) (by omega) (by first | (refine Or.inl ⟨by omega, ?_⟩; omega) | (refine Or.inr ⟨by omega, ?_⟩; omega))
            · refine sf_iconst sf_c1 (fun z48 ez48 => ?_)
              refine sf_zreturn (by omega) rfl rfl ?_
              refine sf_zreturn (by omega) rfl rfl ?_
              refine sf_f1_eq (fun h49 => absurd h49 (by omega)) (fun h49 => ?_)
              refine sf_iconst sf_c1 (fun z50 ez50 => ?_)
              refine sf_call1 rfl rfl rfl ?_
              refine sf_sp (L := [(0, .inl (.int z50))]) rfl rfl ?_
              refine sf_iload rfl ?_
              refine sf_f1_eq (fun h51 => absurd h51 (by omega)) (fun h51 => ?_)
              refine sf_vreturn rfl rfl ?_
              refine sf_aload rfl ?_
              refine sf_getr hI0 rfl rfl ?_
              refine sf_iload rfl ?_
              refine sf_iload rfl ?_
              refine sf_iload rfl ?_
              refine sf_call4 rfl rfl rfl ?_
              refine sf_rv hI0 rfl ?_
              refine sc_R_find hI0 (by omega) (by omega) (fun v52 lv52 uv52 q53_0 => ?_)
              refine sf_ireturn rfl rfl ?_
              refine sf_i2l (fun v54 ev54 => ?_)
              refine sf_last hI0 hs0 rfl (by omega) rfl rfl (fun w55 Iw55 sw55 kw55 uw55 => ?_)
              clear kw55
              have go : (sf_l w55 130 0).toInt = v54.toInt := by rw [uw55, show z1.toInt.toNat = 0 by omega]; unfold vp_updL; rw [if_pos rfl]
              refine sf_iconst sf_c0 (fun z56 ez56 => ?_)
              refine sf_ireturn rfl rfl ?_
              exact hR _ _ Iw55 sw55 (by omega) (by omega) (by first | (refine Or.inl ⟨by omega, ?_⟩; omega) | (refine Or.inr ⟨by omega, ?_⟩; omega))
