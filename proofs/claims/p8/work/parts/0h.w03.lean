def sm_W_declare_0_130 : List Nat := [35, 36, 37, 130, 4500]
set_option maxRecDepth 100000 in
set_option maxHeartbeats 4000000 in
theorem sc_W_declare_0_130 {w0 : wq_W} (hI0 : sf_I w0) {rt : Option wq_V → wq_W → Prop} {xt : Nat → wq_W → Prop} {a_l1 : Int32} {a_l2 : Int32}  (hR : ∀ (r : Int32) (w : wq_W), sf_I w → sf_m sm_W_declare_0_130 w0 w → 0 ≤ r.toInt → r.toInt ≤ 2 → (((r.toInt = 0 ∧ (0 ≤ a_l1.toInt ∧ a_l1.toInt ≤ 9999 ∧ 0 ≤ a_l2.toInt ∧ a_l2.toInt ≤ 1439) ∧ ((sf_f w0 35 0).toInt < 12) ∧ (sf_f w 35 0).toInt = (sf_f w0 35 0).toInt + 1 ∧ (sf_l w 130 0).toInt = (sf_f w0 35 0).toInt) ∨ (r.toInt = 1 ∧ ¬ (0 ≤ a_l1.toInt ∧ a_l1.toInt ≤ 9999 ∧ 0 ≤ a_l2.toInt ∧ a_l2.toInt ≤ 1439) ∧ (sf_f w 35 0).toInt = (sf_f w0 35 0).toInt) ∨ (r.toInt = 2 ∧ (0 ≤ a_l1.toInt ∧ a_l1.toInt ≤ 9999 ∧ 0 ≤ a_l2.toInt ∧ a_l2.toInt ≤ 1439) ∧ ¬ ((sf_f w0 35 0).toInt < 12) ∧ (sf_f w 35 0).toInt = (sf_f w0 35 0).toInt))) → rt (some (.inl (.int r))) w) : ks_W_declare [.inl (.ref 0), .inl (.int a_l1), .inl (.int a_l2), .inl (.ref 130)] w0 rt xt := by
  have hs0 : sf_m sm_W_declare_0_130 w0 w0 := sf_m0
  refine sf_sp (L := [(0, .inl (.ref 0)), (1, .inl (.int a_l1)), (2, .inl (.int a_l2)), (3, .inl (.ref 130))]) rfl rfl ?_
  refine sf_aload rfl ?_
  refine sf_iconst sf_c0 (fun z1 ez1 => ?_)
  refine sf_aload rfl ?_
  refine sf_iload rfl ?_
  refine sf_iload rfl ?_
  refine sf_call3 rfl rfl rfl ?_
  refine sf_rv hI0 rfl ?_
  refine sf_sp (L := [(0, .inl (.ref 0)), (1, .inl (.int a_l1)), (2, .inl (.int a_l2))]) rfl rfl ?_
  refine sf_iload rfl ?_
  refine sf_call1 rfl rfl rfl ?_
  refine sf_sp (L := [(0, .inl (.int a_l1))]) rfl rfl ?_
  refine sf_iload rfl ?_
  refine sf_iconst sf_c10000 (fun z2 ez2 => ?_)
  refine sf_call2 rfl rfl rfl ?_
  refine sf_sp (L := [(0, .inl (.int a_l1)), (1, .inl (.int z2))]) rfl rfl ?_
  refine sf_iconst sf_c0 (fun z3 ez3 => ?_)
  refine sf_iload rfl ?_
  refine sf_f2_gt (fun h4 => ?_) (fun h4 => ?_)
  · refine sf_iconst sf_c0 (fun z5 ez5 => ?_)
    refine sf_zreturn (by omega) rfl rfl ?_
    refine sf_zreturn (by omega) rfl rfl ?_
    refine sf_call1 rfl rfl rfl ?_
    refine sf_sp (L := [(0, .inl (.int z5))]) rfl rfl ?_
    refine sf_iload rfl ?_
    refine sf_f1_eq (fun h6 => ?_) (fun h6 => absurd h6 (by omega))
    refine sf_throw rfl rfl ?_
    refine sf_xout rfl rfl ?_
    refine sf_xhh (L' := [(0, .inl (.ref 0)), (1, .inl (.int a_l1)), (2, .inl (.int a_l2)), (3, .inl (.ref 130))]) rfl rfl ?_
    refine sf_iconst sf_c1 (fun z7 ez7 => ?_)
    refine sf_ireturn rfl rfl ?_
    exact hR _ _ hI0 hs0 (by omega) (by omega) (by first | (refine Or.inl ⟨by omega, ?_⟩; omega) | (refine Or.inr (Or.inl ⟨by omega, ?_⟩); omega) | (refine Or.inr (Or.inr ⟨by omega, ?_⟩); omega))
  · refine sf_iload rfl ?_
    refine sf_iload rfl ?_
    refine sf_f2_ge (fun h8 => ?_) (fun h8 => ?_)
    · refine sf_iconst sf_c0 (fun z9 ez9 => ?_)
      refine sf_zreturn (by omega) rfl rfl ?_
      refine sf_zreturn (by omega) rfl rfl ?_
      refine sf_call1 rfl rfl rfl ?_
      refine sf_sp (L := [(0, .inl (.int z9))]) rfl rfl ?_
      refine sf_iload rfl ?_
      refine sf_f1_eq (fun h10 => ?_) (fun h10 => absurd h10 (by omega))
      refine sf_throw rfl rfl ?_
      refine sf_xout rfl rfl ?_
      refine sf_xhh (L' := [(0, .inl (.ref 0)), (1, .inl (.int a_l1)), (2, .inl (.int a_l2)), (3, .inl (.ref 130))]) rfl rfl ?_
      refine sf_iconst sf_c1 (fun z11 ez11 => ?_)
      refine sf_ireturn rfl rfl ?_
      exact hR _ _ hI0 hs0 (by omega) (by omega) (by first | (refine Or.inl ⟨by omega, ?_⟩; omega) | (refine Or.inr (Or.inl ⟨by omega, ?_⟩); omega) | (refine Or.inr (Or.inr ⟨by omega, ?_⟩); omega))
    · refine sf_iconst sf_c1 (fun z12 ez12 => ?_)
      refine sf_zreturn (by omega) rfl rfl ?_
      refine sf_zreturn (by omega) rfl rfl ?_
      refine sf_call1 rfl rfl rfl ?_
      refine sf_sp (L := [(0, .inl (.int z12))]) rfl rfl ?_
      refine sf_iload rfl ?_
      refine sf_f1_eq (fun h13 => absurd h13 (by omega)) (fun h13 => ?_)
      refine sf_vreturn rfl rfl ?_
      refine sf_iload rfl ?_
      refine sf_iconst sf_c1440 (fun z14 ez14 => ?_)
      refine sf_call2 rfl rfl rfl ?_
      refine sf_sp (L := [(0, .inl (.int a_l2)), (1, .inl (.int z14))]) rfl rfl ?_
      refine sf_iconst sf_c0 (fun z15 ez15 => ?_)
      refine sf_iload rfl ?_
      refine sf_f2_gt (fun h16 => ?_) (fun h16 => ?_)
      · refine sf_iconst sf_c0 (fun z17 ez17 => ?_)
        refine sf_zreturn (by omega) rfl rfl ?_
        refine sf_call1 rfl rfl rfl ?_
        refine sf_sp (L := [(0, .inl (.int z17))]) rfl rfl ?_
        refine sf_iload rfl ?_
        refine sf_f1_eq (fun h18 => ?_) (fun h18 => absurd h18 (by omega))
        refine sf_throw rfl rfl ?_
        refine sf_xout rfl rfl ?_
        refine sf_xhh (L' := [(0, .inl (.ref 0)), (1, .inl (.int a_l1)), (2, .inl (.int a_l2)), (3, .inl (.ref 130))]) rfl rfl ?_
        refine sf_iconst sf_c1 (fun z19 ez19 => ?_)
        refine sf_ireturn rfl rfl ?_
        exact hR _ _ hI0 hs0 (by omega) (by omega) (by first | (refine Or.inl ⟨by omega, ?_⟩; omega) | (refine Or.inr (Or.inl ⟨by omega, ?_⟩); omega) | (refine Or.inr (Or.inr ⟨by omega, ?_⟩); omega))
      · refine sf_iload rfl ?_
        refine sf_iload rfl ?_
        refine sf_f2_ge (fun h20 => ?_) (fun h20 => ?_)
        · refine sf_iconst sf_c0 (fun z21 ez21 => ?_)
          refine sf_zreturn (by omega) rfl rfl ?_
          refine sf_call1 rfl rfl rfl ?_
          refine sf_sp (L := [(0, .inl (.int z21))]) rfl rfl ?_
          refine sf_iload rfl ?_
          refine sf_f1_eq (fun h22 => ?_) (fun h22 => absurd h22 (by omega))
          refine sf_throw rfl rfl ?_
          refine sf_xout rfl rfl ?_
          refine sf_xhh (L' := [(0, .inl (.ref 0)), (1, .inl (.int a_l1)), (2, .inl (.int a_l2)), (3, .inl (.ref 130))]) rfl rfl ?_
          refine sf_iconst sf_c1 (fun z23 ez23 => ?_)
          refine sf_ireturn rfl rfl ?_
          exact hR _ _ hI0 hs0 (by omega) (by omega) (by first | (refine Or.inl ⟨by omega, ?_⟩; omega) | (refine Or.inr (Or.inl ⟨by omega, ?_⟩); omega) | (refine Or.inr (Or.inr ⟨by omega, ?_⟩); omega))
        · refine sf_iconst sf_c1 (fun z24 ez24 => ?_)
          refine sf_zreturn (by omega) rfl rfl ?_
          refine sf_call1 rfl rfl rfl ?_
          refine sf_sp (L := [(0, .inl (.int z24))]) rfl rfl ?_
          refine sf_iload rfl ?_
          refine sf_f1_eq (fun h25 => absurd h25 (by omega)) (fun h25 => ?_)
          refine sf_vreturn rfl rfl ?_
          refine sf_aload rfl ?_
          refine sf_getr hI0 rfl rfl ?_
          refine sf_geti hI0 rfl rfl (fun v26 lv26 uv26 ev26 => ?_)
          refine sf_iconst sf_c12 (fun z27 ez27 => ?_)
          refine sf_f2_ge (fun h28 => ?_) (fun h28 => ?_)
          · refine sf_iconst sf_c0 (fun z29 ez29 => ?_)
            refine sf_call1 rfl rfl rfl ?_
            refine sf_sp (L := [(0, .inl (.int z29))]) rfl rfl ?_
            refine sf_iload rfl ?_
            refine sf_f1_eq (fun h30 => ?_) (fun h30 => absurd h30 (by omega))
            refine sf_throw rfl rfl ?_
            refine sf_xout rfl rfl ?_
            refine sf_xhm rfl ?_
            refine sf_xhh (L' := [(0, .inl (.ref 0)), (1, .inl (.int a_l1)), (2, .inl (.int a_l2)), (3, .inl (.ref 130))]) rfl rfl ?_
            refine sf_iconst sf_c2 (fun z31 ez31 => ?_)
            refine sf_ireturn rfl rfl ?_
            exact hR _ _ hI0 hs0 (by omega) (by omega) (by first | (refine Or.inl ⟨by omega, ?_⟩; omega) | (refine Or.inr (Or.inl ⟨by omega, ?_⟩); omega) | (refine Or.inr (Or.inr ⟨by omega, ?_⟩); omega))
          · refine sf_iconst sf_c1 (fun z32 ez32 => ?_)
            refine sf_call1 rfl rfl rfl ?_
            refine sf_sp (L := [(0, .inl (.int z32))]) rfl rfl ?_
            refine sf_iload rfl ?_
            refine sf_f1_eq (fun h33 => absurd h33 (by omega)) (fun h33 => ?_)
            refine sf_vreturn rfl rfl ?_
            refine sf_aload rfl ?_
            refine sf_getr hI0 rfl rfl ?_
            refine sf_iload rfl ?_
            refine sf_iload rfl ?_
            refine sf_call3 rfl rfl rfl ?_
            refine sf_rv hI0 rfl ?_
            refine sf_sp (L := [(0, .inl (.ref 35)), (1, .inl (.int a_l1)), (2, .inl (.int a_l2))]) rfl rfl ?_
            refine sf_aload rfl ?_
            refine sf_geti hI0 rfl rfl (fun v34 lv34 uv34 ev34 => ?_)
            refine sf_istore (L' := [(0, .inl (.ref 35)), (1, .inl (.int a_l1)), (2, .inl (.int a_l2))]) rfl ?_
            refine sf_aload rfl ?_
            refine sf_getr hI0 rfl rfl ?_
            refine sf_iload rfl ?_
            refine sf_iload rfl ?_
            refine sf_iast hI0 hs0 rfl (by omega) (sf_bd _) rfl rfl (fun w35 Iw35 sw35 kw35 uw35 => ?_)
            have c36 := sf_mf kw35 (p := 35) (j := 0) rfl
            clear kw35 uw35
            refine sf_aload rfl ?_
            refine sf_getr Iw35 rfl rfl ?_
            refine sf_iload rfl ?_
            refine sf_iload rfl ?_
            refine sf_iast Iw35 sw35 rfl (by omega) (sf_bd _) rfl rfl (fun w37 Iw37 sw37 kw37 uw37 => ?_)
            have c38 := sf_mf kw37 (p := 35) (j := 0) rfl
            clear kw37 uw37
            refine sf_aload rfl ?_
            refine sf_dup rfl ?_
            refine sf_geti Iw37 rfl rfl (fun v39 lv39 uv39 ev39 => ?_)
            rw [c38, c36] at ev39
            refine sf_iconst sf_c1 (fun z40 ez40 => ?_)
            refine sf_iadd (by omega) (fun v41 ev41 => ?_)
            refine sf_puti Iw37 sw37 rfl rfl (by omega) rfl rfl rfl (fun w42 Iw42 sw42 kw42 uw42 => ?_)
            clear kw42
            refine sf_iload rfl ?_
            refine sf_ireturn rfl rfl ?_
            refine sf_ireturn rfl rfl ?_
            refine sf_i2l (fun v43 ev43 => ?_)
            refine sf_last Iw42 sw42 rfl (by omega) rfl rfl (fun w44 Iw44 sw44 kw44 uw44 => ?_)
            have c45 := sf_mf kw44 (p := 35) (j := 0) rfl
            clear kw44
            have go : (sf_l w44 130 0).toInt = v43.toInt := by rw [uw44, show z1.toInt.toNat = 0 by omega]; unfold vp_updL; rw [if_pos rfl]
            refine sf_iconst sf_c0 (fun z46 ez46 => ?_)
            refine sf_ireturn rfl rfl ?_
            exact hR _ _ Iw44 sw44 (by omega) (by omega) (by rw [c45, uw42]; first | (refine Or.inl ⟨by omega, ?_⟩; omega) | (refine Or.inr (Or.inl ⟨by omega, ?_⟩); omega) | (refine Or.inr (Or.inr ⟨by omega, ?_⟩); omega))
def sm_W_line_0_130 : List Nat := [38, 42, 43, 44, 45, 46, 47, 130]
set_option maxRecDepth 100000 in
set_option maxHeartbeats 4000000 in
theorem sc_W_line_0_130 {w0 : wq_W} (hI0 : sf_I w0) {rt : Option wq_V → wq_W → Prop} {xt : Nat → wq_W → Prop} {a_l1 : Int32} {a_l2 : Int32} {a_l3 : Int32} {a_l4 : Int32} {a_l5 : Int32} {a_l6 : Int32} {a_l7 : Int32} (p0 : 0 ≤ a_l7.toInt) (p1 : a_l7.toInt ≤ 1) (hR : ∀ (r : Int32) (w : wq_W), sf_I w → sf_m sm_W_line_0_130 w0 w → 0 ≤ r.toInt → r.toInt ≤ 2 → rt (some (.inl (.int r))) w) : ks_W_line [.inl (.ref 0), .inl (.int a_l1), .inl (.int a_l2), .inl (.int a_l3), .inl (.int a_l4), .inl (.int a_l5), .inl (.int a_l6), .inl (.int a_l7), .inl (.ref 130)] w0 rt xt := by
  have hs0 : sf_m sm_W_line_0_130 w0 w0 := sf_m0
  refine sf_sp (L := [(0, .inl (.ref 0)), (1, .inl (.int a_l1)), (2, .inl (.int a_l2)), (3, .inl (.int a_l3)), (4, .inl (.int a_l4)), (5, .inl (.int a_l5)), (6, .inl (.int a_l6)), (7, .inl (.int a_l7)), (8, .inl (.ref 130))]) rfl rfl ?_
  refine sf_aload rfl ?_
  refine sf_iconst sf_c0 (fun z1 ez1 => ?_)
  refine sf_aload rfl ?_
  refine sf_iload rfl ?_
  refine sf_iload rfl ?_
  refine sf_iload rfl ?_
  refine sf_iload rfl ?_
  refine sf_iload rfl ?_
  refine sf_iload rfl ?_
  refine sf_iload rfl ?_
  refine sf_call8 rfl rfl rfl ?_
  refine sf_rv hI0 rfl ?_
  refine sf_sp (L := [(0, .inl (.ref 0)), (1, .inl (.int a_l1)), (2, .inl (.int a_l2)), (3, .inl (.int a_l3)), (4, .inl (.int a_l4)), (5, .inl (.int a_l5)), (6, .inl (.int a_l6)), (7, .inl (.int a_l7))]) rfl rfl ?_
  refine sf_aload rfl ?_
  refine sf_iload rfl ?_
  refine sf_call2 rfl rfl rfl ?_
  refine sf_rv hI0 rfl ?_
  refine sf_sp (L := [(0, .inl (.ref 0)), (1, .inl (.int a_l1))]) rfl rfl ?_
  refine sf_iload rfl ?_
  refine sf_aload rfl ?_
  refine sf_getr hI0 rfl rfl ?_
  refine sf_geti hI0 rfl rfl (fun v2 lv2 uv2 ev2 => ?_)
  refine sf_call2 rfl rfl rfl ?_
  refine sf_sp (L := [(0, .inl (.int a_l1)), (1, .inl (.int v2))]) rfl rfl ?_
  refine sf_iconst sf_c0 (fun z3 ez3 => ?_)
  refine sf_iload rfl ?_
  refine sf_f2_gt (fun h4 => ?_) (fun h4 => ?_)
  · refine sf_iconst sf_c0 (fun z5 ez5 => ?_)
    refine sf_zreturn (by omega) rfl rfl ?_
    refine sf_zreturn (by omega) rfl rfl ?_
    refine sf_f1_eq (fun h6 => ?_) (fun h6 => absurd h6 (by omega))
    refine sf_iconst sf_c0 (fun z7 ez7 => ?_)
    refine sf_call1 rfl rfl rfl ?_
    refine sf_sp (L := [(0, .inl (.int z7))]) rfl rfl ?_
    refine sf_iload rfl ?_
    refine sf_f1_eq (fun h8 => ?_) (fun h8 => absurd h8 (by omega))
    refine sf_throw rfl rfl ?_
    refine sf_xout rfl rfl ?_
    refine sf_xhh (L' := [(0, .inl (.ref 0)), (1, .inl (.int a_l1)), (2, .inl (.int a_l2)), (3, .inl (.int a_l3)), (4, .inl (.int a_l4)), (5, .inl (.int a_l5)), (6, .inl (.int a_l6)), (7, .inl (.int a_l7)), (8, .inl (.ref 130))]) rfl rfl ?_
    refine sf_iconst sf_c1 (fun z9 ez9 => ?_)
    refine sf_ireturn rfl rfl ?_
    exact hR _ _ hI0 hs0 (by omega) (by omega) 
  · refine sf_iload rfl ?_
    refine sf_iload rfl ?_
    refine sf_f2_ge (fun h10 => ?_) (fun h10 => ?_)
    · refine sf_iconst sf_c0 (fun z11 ez11 => ?_)
      refine sf_zreturn (by omega) rfl rfl ?_
      refine sf_zreturn (by omega) rfl rfl ?_
      refine sf_f1_eq (fun h12 => ?_) (fun h12 => absurd h12 (by omega))
      refine sf_iconst sf_c0 (fun z13 ez13 => ?_)
      refine sf_call1 rfl rfl rfl ?_
      refine sf_sp (L := [(0, .inl (.int z13))]) rfl rfl ?_
      refine sf_iload rfl ?_
      refine sf_f1_eq (fun h14 => ?_) (fun h14 => absurd h14 (by omega))
      refine sf_throw rfl rfl ?_
      refine sf_xout rfl rfl ?_
      refine sf_xhh (L' := [(0, .inl (.ref 0)), (1, .inl (.int a_l1)), (2, .inl (.int a_l2)), (3, .inl (.int a_l3)), (4, .inl (.int a_l4)), (5, .inl (.int a_l5)), (6, .inl (.int a_l6)), (7, .inl (.int a_l7)), (8, .inl (.ref 130))]) rfl rfl ?_
      refine sf_iconst sf_c1 (fun z15 ez15 => ?_)
      refine sf_ireturn rfl rfl ?_
      exact hR _ _ hI0 hs0 (by omega) (by omega) 
    · refine sf_iconst sf_c1 (fun z16 ez16 => ?_)
      refine sf_zreturn (by omega) rfl rfl ?_
      refine sf_zreturn (by omega) rfl rfl ?_
      refine sf_f1_eq (fun h17 => absurd h17 (by omega)) (fun h17 => ?_)
      refine sf_iload rfl ?_
      refine sf_call1 rfl rfl rfl ?_
      refine sf_sp (L := [(0, .inl (.int a_l2))]) rfl rfl ?_
      refine sf_iload rfl ?_
      refine sf_iconst sf_c16 (fun z18 ez18 => ?_)
      refine sf_call2 rfl rfl rfl ?_
      refine sf_sp (L := [(0, .inl (.int a_l2)), (1, .inl (.int z18))]) rfl rfl ?_
      refine sf_iconst sf_c0 (fun z19 ez19 => ?_)
      refine sf_iload rfl ?_
      refine sf_f2_gt (fun h20 => ?_) (fun h20 => ?_)
      · refine sf_iconst sf_c0 (fun z21 ez21 => ?_)
        refine sf_zreturn (by omega) rfl rfl ?_
        refine sf_zreturn (by omega) rfl rfl ?_
        refine sf_f1_eq (fun h22 => ?_) (fun h22 => absurd h22 (by omega))
        refine sf_iconst sf_c0 (fun z23 ez23 => ?_)
        refine sf_call1 rfl rfl rfl ?_
        refine sf_sp (L := [(0, .inl (.int z23))]) rfl rfl ?_
        refine sf_iload rfl ?_
        refine sf_f1_eq (fun h24 => ?_) (fun h24 => absurd h24 (by omega))
        refine sf_throw rfl rfl ?_
        refine sf_xout rfl rfl ?_
        refine sf_xhh (L' := [(0, .inl (.ref 0)), (1, .inl (.int a_l1)), (2, .inl (.int a_l2)), (3, .inl (.int a_l3)), (4, .inl (.int a_l4)), (5, .inl (.int a_l5)), (6, .inl (.int a_l6)), (7, .inl (.int a_l7)), (8, .inl (.ref 130))]) rfl rfl ?_
        refine sf_iconst sf_c1 (fun z25 ez25 => ?_)
        refine sf_ireturn rfl rfl ?_
        exact hR _ _ hI0 hs0 (by omega) (by omega) 
      · refine sf_iload rfl ?_
        refine sf_iload rfl ?_
        refine sf_f2_ge (fun h26 => ?_) (fun h26 => ?_)
        · refine sf_iconst sf_c0 (fun z27 ez27 => ?_)
          refine sf_zreturn (by omega) rfl rfl ?_
          refine sf_zreturn (by omega) rfl rfl ?_
          refine sf_f1_eq (fun h28 => ?_) (fun h28 => absurd h28 (by omega))
          refine sf_iconst sf_c0 (fun z29 ez29 => ?_)
          refine sf_call1 rfl rfl rfl ?_
          refine sf_sp (L := [(0, .inl (.int z29))]) rfl rfl ?_
          refine sf_iload rfl ?_
          refine sf_f1_eq (fun h30 => ?_) (fun h30 => absurd h30 (by omega))
          refine sf_throw rfl rfl ?_
          refine sf_xout rfl rfl ?_
          refine sf_xhh (L' := [(0, .inl (.ref 0)), (1, .inl (.int a_l1)), (2, .inl (.int a_l2)), (3, .inl (.int a_l3)), (4, .inl (.int a_l4)), (5, .inl (.int a_l5)), (6, .inl (.int a_l6)), (7, .inl (.int a_l7)), (8, .inl (.ref 130))]) rfl rfl ?_
          refine sf_iconst sf_c1 (fun z31 ez31 => ?_)
          refine sf_ireturn rfl rfl ?_
          exact hR _ _ hI0 hs0 (by omega) (by omega) 
        · refine sf_iconst sf_c1 (fun z32 ez32 => ?_)
          refine sf_zreturn (by omega) rfl rfl ?_
          refine sf_zreturn (by omega) rfl rfl ?_
          refine sf_f1_eq (fun h33 => absurd h33 (by omega)) (fun h33 => ?_)
          refine sf_iload rfl ?_
          refine sf_call1 rfl rfl rfl ?_
          refine sf_sp (L := [(0, .inl (.int a_l3))]) rfl rfl ?_
          refine sf_iload rfl ?_
          refine sf_iconst sf_c8 (fun z34 ez34 => ?_)
          refine sf_call2 rfl rfl rfl ?_
          refine sf_sp (L := [(0, .inl (.int a_l3)), (1, .inl (.int z34))]) rfl rfl ?_
          refine sf_iconst sf_c0 (fun z35 ez35 => ?_)
          refine sf_iload rfl ?_
          refine sf_f2_gt (fun h36 => ?_) (fun h36 => ?_)
          · refine sf_iconst sf_c0 (fun z37 ez37 => ?_)
            refine sf_zreturn (by omega) rfl rfl ?_
            refine sf_zreturn (by omega) rfl rfl ?_
            refine sf_f1_eq (fun h38 => ?_) (fun h38 => absurd h38 (by omega))
            refine sf_iconst sf_c0 (fun z39 ez39 => ?_)
            refine sf_call1 rfl rfl rfl ?_
            refine sf_sp (L := [(0, .inl (.int z39))]) rfl rfl ?_
            refine sf_iload rfl ?_
            refine sf_f1_eq (fun h40 => ?_) (fun h40 => absurd h40 (by omega))
            refine sf_throw rfl rfl ?_
            refine sf_xout rfl rfl ?_
            refine sf_xhh (L' := [(0, .inl (.ref 0)), (1, .inl (.int a_l1)), (2, .inl (.int a_l2)), (3, .inl (.int a_l3)), (4, .inl (.int a_l4)), (5, .inl (.int a_l5)), (6, .inl (.int a_l6)), (7, .inl (.int a_l7)), (8, .inl (.ref 130))]) rfl rfl ?_
            refine sf_iconst sf_c1 (fun z41 ez41 => ?_)
            refine sf_ireturn rfl rfl ?_
            exact hR _ _ hI0 hs0 (by omega) (by omega) 
          · refine sf_iload rfl ?_
            refine sf_iload rfl ?_
            refine sf_f2_ge (fun h42 => ?_) (fun h42 => ?_)
            · refine sf_iconst sf_c0 (fun z43 ez43 => ?_)
              refine sf_zreturn (by omega) rfl rfl ?_
              refine sf_zreturn (by omega) rfl rfl ?_
              refine sf_f1_eq (fun h44 => ?_) (fun h44 => absurd h44 (by omega))
              refine sf_iconst sf_c0 (fun z45 ez45 => ?_)
              refine sf_call1 rfl rfl rfl ?_
              refine sf_sp (L := [(0, .inl (.int z45))]) rfl rfl ?_
              refine sf_iload rfl ?_
              refine sf_f1_eq (fun h46 => ?_) (fun h46 => absurd h46 (by omega))
              refine sf_throw rfl rfl ?_
              refine sf_xout rfl rfl ?_
              refine sf_xhh (L' := [(0, .inl (.ref 0)), (1, .inl (.int a_l1)), (2, .inl (.int a_l2)), (3, .inl (.int a_l3)), (4, .inl (.int a_l4)), (5, .inl (.int a_l5)), (6, .inl (.int a_l6)), (7, .inl (.int a_l7)), (8, .inl (.ref 130))]) rfl rfl ?_
              refine sf_iconst sf_c1 (fun z47 ez47 => ?_)
              refine sf_ireturn rfl rfl ?_
              exact hR _ _ hI0 hs0 (by omega) (by omega) 
            · refine sf_iconst sf_c1 (fun z48 ez48 => ?_)
              refine sf_zreturn (by omega) rfl rfl ?_
              refine sf_zreturn (by omega) rfl rfl ?_
              refine sf_f1_eq (fun h49 => absurd h49 (by omega)) (fun h49 => ?_)
              refine sf_iconst sf_c1 (fun z50 ez50 => ?_)
              refine sf_call1 rfl rfl rfl ?_
              refine sf_sp (L := [(0, .inl (.int z50))]) rfl rfl ?_
              refine sf_iload rfl ?_
              refine sf_f1_eq (fun h51 => absurd h51 (by omega)) (fun h51 => ?_)
              refine sf_vreturn rfl rfl ?_
              refine sf_iconst sf_c0 (fun z52 ez52 => ?_)
              refine sf_iload rfl ?_
              refine sf_call2 rfl rfl rfl ?_
              refine sf_sp (L := [(0, .inl (.int z52)), (1, .inl (.int a_l4))]) rfl rfl ?_
              refine sf_iload rfl ?_
              refine sf_sw1 sf_c0 (fun h53 => ?_) (fun h53 => absurd h53 (by omega))
              refine sf_iload rfl ?_
              refine sf_iconst sf_c1 (fun z54 ez54 => ?_)
              refine sf_iconst sf_c1000 (fun z55 ez55 => ?_)
              refine sf_call3 rfl rfl rfl ?_
              refine sf_sp (L := [(0, .inl (.int a_l4)), (1, .inl (.int z54)), (2, .inl (.int z55))]) rfl rfl ?_
              refine sf_iload rfl ?_
              refine sf_iload rfl ?_
              refine sf_f2_gt (fun h56 => ?_) (fun h56 => ?_)
              · refine sf_iconst sf_c0 (fun z57 ez57 => ?_)
                refine sf_zreturn (by omega) rfl rfl ?_
                refine sf_zreturn (by omega) rfl rfl ?_
                refine sf_call1 rfl rfl rfl ?_
                refine sf_sp (L := [(0, .inl (.int z57))]) rfl rfl ?_
                refine sf_iload rfl ?_
                refine sf_f1_eq (fun h58 => ?_) (fun h58 => absurd h58 (by omega))
                refine sf_throw rfl rfl ?_
                refine sf_xout rfl rfl ?_
                refine sf_xhh (L' := [(0, .inl (.ref 0)), (1, .inl (.int a_l1)), (2, .inl (.int a_l2)), (3, .inl (.int a_l3)), (4, .inl (.int a_l4)), (5, .inl (.int a_l5)), (6, .inl (.int a_l6)), (7, .inl (.int a_l7)), (8, .inl (.ref 130))]) rfl rfl ?_
                refine sf_iconst sf_c1 (fun z59 ez59 => ?_)
                refine sf_ireturn rfl rfl ?_
                exact hR _ _ hI0 hs0 (by omega) (by omega) 
              · refine sf_iload rfl ?_
                refine sf_iload rfl ?_
                refine sf_f2_gt (fun h60 => ?_) (fun h60 => ?_)
                · refine sf_iconst sf_c0 (fun z61 ez61 => ?_)
                  refine sf_zreturn (by omega) rfl rfl ?_
                  refine sf_zreturn (by omega) rfl rfl ?_
                  refine sf_call1 rfl rfl rfl ?_
                  refine sf_sp (L := [(0, .inl (.int z61))]) rfl rfl ?_
                  refine sf_iload rfl ?_
                  refine sf_f1_eq (fun h62 => ?_) (fun h62 => absurd h62 (by omega))
                  refine sf_throw rfl rfl ?_
                  refine sf_xout rfl rfl ?_
                  refine sf_xhh (L' := [(0, .inl (.ref 0)), (1, .inl (.int a_l1)), (2, .inl (.int a_l2)), (3, .inl (.int a_l3)), (4, .inl (.int a_l4)), (5, .inl (.int a_l5)), (6, .inl (.int a_l6)), (7, .inl (.int a_l7)), (8, .inl (.ref 130))]) rfl rfl ?_
                  refine sf_iconst sf_c1 (fun z63 ez63 => ?_)
                  refine sf_ireturn rfl rfl ?_
                  exact hR _ _ hI0 hs0 (by omega) (by omega) 
                · refine sf_iconst sf_c1 (fun z64 ez64 => ?_)
                  refine sf_zreturn (by omega) rfl rfl ?_
                  refine sf_zreturn (by omega) rfl rfl ?_
                  refine sf_call1 rfl rfl rfl ?_
                  refine sf_sp (L := [(0, .inl (.int z64))]) rfl rfl ?_
                  refine sf_iload rfl ?_
                  refine sf_f1_eq (fun h65 => absurd h65 (by omega)) (fun h65 => ?_)
                  refine sf_vreturn rfl rfl ?_
                  refine sf_iconst sf_c1 (fun z66 ez66 => ?_)
                  refine sf_iload rfl ?_
                  refine sf_call2 rfl rfl rfl ?_
                  refine sf_sp (L := [(0, .inl (.int z66)), (1, .inl (.int a_l5))]) rfl rfl ?_
                  refine sf_iload rfl ?_
                  refine sf_sw1 sf_c0 (fun h67 => absurd h67 (by omega)) (fun h67 => ?_)
                  refine sf_sw1 sf_c1 (fun h68 => ?_) (fun h68 => absurd h68 (by omega))
                  refine sf_iload rfl ?_
                  refine sf_iconst sf_c0 (fun z69 ez69 => ?_)
                  refine sf_iconst sf_cl1000000 (fun z70 ez70 => ?_)
                  refine sf_call3 rfl rfl rfl ?_
                  refine sf_sp (L := [(0, .inl (.int a_l5)), (1, .inl (.int z69)), (2, .inl (.int z70))]) rfl rfl ?_
                  refine sf_iload rfl ?_
                  refine sf_iload rfl ?_
                  refine sf_f2_gt (fun h71 => ?_) (fun h71 => ?_)
                  · refine sf_iconst sf_c0 (fun z72 ez72 => ?_)
                    refine sf_zreturn (by omega) rfl rfl ?_
                    refine sf_zreturn (by omega) rfl rfl ?_
                    refine sf_call1 rfl rfl rfl ?_
                    refine sf_sp (L := [(0, .inl (.int z72))]) rfl rfl ?_
                    refine sf_iload rfl ?_
                    refine sf_f1_eq (fun h73 => ?_) (fun h73 => absurd h73 (by omega))
                    refine sf_throw rfl rfl ?_
                    refine sf_xout rfl rfl ?_
                    refine sf_xhh (L' := [(0, .inl (.ref 0)), (1, .inl (.int a_l1)), (2, .inl (.int a_l2)), (3, .inl (.int a_l3)), (4, .inl (.int a_l4)), (5, .inl (.int a_l5)), (6, .inl (.int a_l6)), (7, .inl (.int a_l7)), (8, .inl (.ref 130))]) rfl rfl ?_
                    refine sf_iconst sf_c1 (fun z74 ez74 => ?_)
                    refine sf_ireturn rfl rfl ?_
                    exact hR _ _ hI0 hs0 (by omega) (by omega) 
                  · refine sf_iload rfl ?_
                    refine sf_iload rfl ?_
                    refine sf_f2_gt (fun h75 => ?_) (fun h75 => ?_)
                    · refine sf_iconst sf_c0 (fun z76 ez76 => ?_)
                      refine sf_zreturn (by omega) rfl rfl ?_
                      refine sf_zreturn (by omega) rfl rfl ?_
                      refine sf_call1 rfl rfl rfl ?_
                      refine sf_sp (L := [(0, .inl (.int z76))]) rfl rfl ?_
                      refine sf_iload rfl ?_
                      refine sf_f1_eq (fun h77 => ?_) (fun h77 => absurd h77 (by omega))
                      refine sf_throw rfl rfl ?_
                      refine sf_xout rfl rfl ?_
                      refine sf_xhh (L' := [(0, .inl (.ref 0)), (1, .inl (.int a_l1)), (2, .inl (.int a_l2)), (3, .inl (.int a_l3)), (4, .inl (.int a_l4)), (5, .inl (.int a_l5)), (6, .inl (.int a_l6)), (7, .inl (.int a_l7)), (8, .inl (.ref 130))]) rfl rfl ?_
                      refine sf_iconst sf_c1 (fun z78 ez78 => ?_)
                      refine sf_ireturn rfl rfl ?_
                      exact hR _ _ hI0 hs0 (by omega) (by omega) 
                    · refine sf_iconst sf_c1 (fun z79 ez79 => ?_)
                      refine sf_zreturn (by omega) rfl rfl ?_
                      refine sf_zreturn (by omega) rfl rfl ?_
                      refine sf_call1 rfl rfl rfl ?_
                      refine sf_sp (L := [(0, .inl (.int z79))]) rfl rfl ?_
                      refine sf_iload rfl ?_
                      refine sf_f1_eq (fun h80 => absurd h80 (by omega)) (fun h80 => ?_)
                      refine sf_vreturn rfl rfl ?_
                      refine sf_iconst sf_c2 (fun z81 ez81 => ?_)
                      refine sf_iload rfl ?_
                      refine sf_call2 rfl rfl rfl ?_
                      refine sf_sp (L := [(0, .inl (.int z81)), (1, .inl (.int a_l6))]) rfl rfl ?_
                      refine sf_iload rfl ?_
                      refine sf_sw1 sf_c0 (fun h82 => absurd h82 (by omega)) (fun h82 => ?_)
                      refine sf_sw1 sf_c1 (fun h83 => absurd h83 (by omega)) (fun h83 => ?_)
                      refine sf_sw1 sf_c2 (fun h84 => ?_) (fun h84 => absurd h84 (by omega))
                      refine sf_iload rfl ?_
                      refine sf_iconst sf_c0 (fun z85 ez85 => ?_)
                      refine sf_iconst sf_cl100000000 (fun z86 ez86 => ?_)
                      refine sf_call3 rfl rfl rfl ?_
                      refine sf_sp (L := [(0, .inl (.int a_l6)), (1, .inl (.int z85)), (2, .inl (.int z86))]) rfl rfl ?_
                      refine sf_iload rfl ?_
                      refine sf_iload rfl ?_
                      refine sf_f2_gt (fun h87 => ?_) (fun h87 => ?_)
                      · refine sf_iconst sf_c0 (fun z88 ez88 => ?_)
                        refine sf_zreturn (by omega) rfl rfl ?_
                        refine sf_zreturn (by omega) rfl rfl ?_
                        refine sf_call1 rfl rfl rfl ?_
                        refine sf_sp (L := [(0, .inl (.int z88))]) rfl rfl ?_
                        refine sf_iload rfl ?_
                        refine sf_f1_eq (fun h89 => ?_) (fun h89 => absurd h89 (by omega))
                        refine sf_throw rfl rfl ?_
                        refine sf_xout rfl rfl ?_
                        refine sf_xhh (L' := [(0, .inl (.ref 0)), (1, .inl (.int a_l1)), (2, .inl (.int a_l2)), (3, .inl (.int a_l3)), (4, .inl (.int a_l4)), (5, .inl (.int a_l5)), (6, .inl (.int a_l6)), (7, .inl (.int a_l7)), (8, .inl (.ref 130))]) rfl rfl ?_
                        refine sf_iconst sf_c1 (fun z90 ez90 => ?_)
                        refine sf_ireturn rfl rfl ?_
                        exact hR _ _ hI0 hs0 (by omega) (by omega) 
                      · refine sf_iload rfl ?_
                        refine sf_iload rfl ?_
                        refine sf_f2_gt (fun h91 => ?_) (fun h91 => ?_)
                        · refine sf_iconst sf_c0 (fun z92 ez92 => ?_)
                          refine sf_zreturn (by omega) rfl rfl ?_
                          refine sf_zreturn (by omega) rfl rfl ?_
                          refine sf_call1 rfl rfl rfl ?_
                          refine sf_sp (L := [(0, .inl (.int z92))]) rfl rfl ?_
                          refine sf_iload rfl ?_
                          refine sf_f1_eq (fun h93 => ?_) (fun h93 => absurd h93 (by omega))
                          refine sf_throw rfl rfl ?_
                          refine sf_xout rfl rfl ?_
                          refine sf_xhh (L' := [(0, .inl (.ref 0)), (1, .inl (.int a_l1)), (2, .inl (.int a_l2)), (3, .inl (.int a_l3)), (4, .inl (.int a_l4)), (5, .inl (.int a_l5)), (6, .inl (.int a_l6)), (7, .inl (.int a_l7)), (8, .inl (.ref 130))]) rfl rfl ?_
                          refine sf_iconst sf_c1 (fun z94 ez94 => ?_)
                          refine sf_ireturn rfl rfl ?_
                          exact hR _ _ hI0 hs0 (by omega) (by omega) 
                        · refine sf_iconst sf_c1 (fun z95 ez95 => ?_)
                          refine sf_zreturn (by omega) rfl rfl ?_
                          refine sf_zreturn (by omega) rfl rfl ?_
                          refine sf_call1 rfl rfl rfl ?_
                          refine sf_sp (L := [(0, .inl (.int z95))]) rfl rfl ?_
                          refine sf_iload rfl ?_
                          refine sf_f1_eq (fun h96 => absurd h96 (by omega)) (fun h96 => ?_)
                          refine sf_vreturn rfl rfl ?_
                          refine sf_aload rfl ?_
                          refine sf_getr hI0 rfl rfl ?_
                          refine sf_getr hI0 rfl rfl ?_
                          refine sf_iload rfl ?_
                          refine sf_zald hI0 rfl (by omega) (fun v97 lv97 uv97 ev97 => ?_)
                          refine sf_f1_eq (fun h98 => ?_) (fun h98 => ?_)
                          · refine sf_iconst sf_c1 (fun z99 ez99 => ?_)
                            refine sf_call1 rfl rfl rfl ?_
                            refine sf_sp (L := [(0, .inl (.int z99))]) rfl rfl ?_
                            refine sf_iload rfl ?_
                            refine sf_f1_eq (fun h100 => absurd h100 (by omega)) (fun h100 => ?_)
                            refine sf_vreturn rfl rfl ?_
                            refine sf_aload rfl ?_
                            refine sf_getr hI0 rfl rfl ?_
                            refine sf_getr hI0 rfl rfl ?_
                            refine sf_iload rfl ?_
                            refine sf_iald hI0 rfl (by omega) (fun v101 lv101 uv101 ev101 => ?_)
                            refine sf_iconst sf_c4 (fun z102 ez102 => ?_)
                            refine sf_f2_ge (fun h103 => ?_) (fun h103 => ?_)
                            · refine sf_iconst sf_c0 (fun z104 ez104 => ?_)
                              refine sf_call1 rfl rfl rfl ?_
                              refine sf_sp (L := [(0, .inl (.int z104))]) rfl rfl ?_
                              refine sf_iload rfl ?_
                              refine sf_f1_eq (fun h105 => ?_) (fun h105 => absurd h105 (by omega))
                              refine sf_throw rfl rfl ?_
                              refine sf_xout rfl rfl ?_
                              refine sf_xhm rfl ?_
                              refine sf_xhh (L' := [(0, .inl (.ref 0)), (1, .inl (.int a_l1)), (2, .inl (.int a_l2)), (3, .inl (.int a_l3)), (4, .inl (.int a_l4)), (5, .inl (.int a_l5)), (6, .inl (.int a_l6)), (7, .inl (.int a_l7)), (8, .inl (.ref 130))]) rfl rfl ?_
                              refine sf_iconst sf_c2 (fun z106 ez106 => ?_)
                              refine sf_ireturn rfl rfl ?_
                              exact hR _ _ hI0 hs0 (by omega) (by omega) 
                            · refine sf_iconst sf_c1 (fun z107 ez107 => ?_)
                              refine sf_call1 rfl rfl rfl ?_
                              refine sf_sp (L := [(0, .inl (.int z107))]) rfl rfl ?_
                              refine sf_iload rfl ?_
                              refine sf_f1_eq (fun h108 => absurd h108 (by omega)) (fun h108 => ?_)
                              refine sf_vreturn rfl rfl ?_
                              refine sf_aload rfl ?_
                              refine sf_getr hI0 rfl rfl ?_
                              refine sf_iload rfl ?_
                              refine sf_iload rfl ?_
                              refine sf_iload rfl ?_
                              refine sf_iload rfl ?_
                              refine sf_iload rfl ?_
                              refine sf_iload rfl ?_
                              refine sf_iload rfl ?_
                              refine sf_call8 rfl rfl rfl ?_
                              refine sf_rv hI0 rfl ?_
                              refine sf_sp (L := [(0, .inl (.ref 35)), (1, .inl (.int a_l1)), (2, .inl (.int a_l2)), (3, .inl (.int a_l3)), (4, .inl (.int a_l4)), (5, .inl (.int a_l5)), (6, .inl (.int a_l6)), (7, .inl (.int a_l7))]) rfl rfl ?_
                              refine sf_aload rfl ?_
                              refine sf_getr hI0 rfl rfl ?_
                              refine sf_iload rfl ?_
                              refine sf_iald hI0 rfl (by omega) (fun v109 lv109 uv109 ev109 => ?_)
                              refine sf_istore (L' := [(0, .inl (.ref 35)), (1, .inl (.int a_l1)), (2, .inl (.int a_l2)), (3, .inl (.int a_l3)), (4, .inl (.int a_l4)), (5, .inl (.int a_l5)), (6, .inl (.int a_l6)), (7, .inl (.int a_l7))]) rfl ?_
                              refine sf_iload rfl ?_
                              refine sf_iload rfl ?_
                              refine sf_call2 rfl rfl rfl ?_
                              refine sf_sp (L := [(0, .inl (.int a_l1)), (1, .inl (.int v109))]) rfl rfl ?_
                              refine sf_iload rfl ?_
                              refine sf_iconst sf_c4 (fun z110 ez110 => ?_)
                              refine sf_imulr (n := 4) (by omega) (by omega) (fun v111 ev111 => ?_)
                              refine sf_iload rfl ?_
                              refine sf_iadd (by omega) (fun v112 ev112 => ?_)
                              refine sf_ireturn rfl rfl ?_
                              refine sf_istore (L' := [(8, .inl (.int v109)), (0, .inl (.ref 35)), (1, .inl (.int a_l1)), (2, .inl (.int a_l2)), (3, .inl (.int a_l3)), (4, .inl (.int a_l4)), (5, .inl (.int a_l5)), (6, .inl (.int a_l6)), (7, .inl (.int a_l7))]) rfl ?_
                              refine sf_aload rfl ?_
                              refine sf_getr hI0 rfl rfl ?_
                              refine sf_iload rfl ?_
                              refine sf_iload rfl ?_
                              refine sf_iast hI0 hs0 rfl (by omega) (by omega) rfl rfl (fun w113 Iw113 sw113 kw113 uw113 => ?_)
                              have c114 := sf_ma kw113 (p := 38) rfl
                              clear kw113 uw113
                              refine sf_aload rfl ?_
                              refine sf_getr Iw113 rfl rfl ?_
                              refine sf_iload rfl ?_
                              refine sf_iload rfl ?_
                              refine sf_iast Iw113 sw113 rfl (by omega) (sf_bd _) rfl rfl (fun w115 Iw115 sw115 kw115 uw115 => ?_)
                              have c116 := sf_ma kw115 (p := 38) rfl
                              clear kw115 uw115
                              refine sf_aload rfl ?_
                              refine sf_getr Iw115 rfl rfl ?_
                              refine sf_iload rfl ?_
                              refine sf_iload rfl ?_
                              refine sf_iast Iw115 sw115 rfl (by omega) (sf_bd _) rfl rfl (fun w117 Iw117 sw117 kw117 uw117 => ?_)
                              have c118 := sf_ma kw117 (p := 38) rfl
                              clear kw117 uw117
                              refine sf_aload rfl ?_
                              refine sf_getr Iw117 rfl rfl ?_
                              refine sf_iload rfl ?_
                              refine sf_iload rfl ?_
                              refine sf_iast Iw117 sw117 rfl (by omega) (sf_bd _) rfl rfl (fun w119 Iw119 sw119 kw119 uw119 => ?_)
                              have c120 := sf_ma kw119 (p := 38) rfl
                              clear kw119 uw119
                              refine sf_aload rfl ?_
                              refine sf_getr Iw119 rfl rfl ?_
                              refine sf_iload rfl ?_
                              refine sf_iload rfl ?_
                              refine sf_iast Iw119 sw119 rfl (by omega) (sf_bd _) rfl rfl (fun w121 Iw121 sw121 kw121 uw121 => ?_)
                              have c122 := sf_ma kw121 (p := 38) rfl
                              clear kw121 uw121
                              refine sf_aload rfl ?_
                              refine sf_getr Iw121 rfl rfl ?_
                              refine sf_iload rfl ?_
                              refine sf_iload rfl ?_
                              refine sf_zast Iw121 sw121 rfl (by omega) (by omega) rfl rfl (fun w123 Iw123 sw123 kw123 uw123 => ?_)
                              have c124 := sf_ma kw123 (p := 38) rfl
                              clear kw123 uw123
                              refine sf_aload rfl ?_
                              refine sf_getr Iw123 rfl rfl ?_
                              refine sf_iload rfl ?_
                              refine sf_dup2 rfl rfl ?_
                              refine sf_iald Iw123 rfl (by omega) (fun v125 lv125 uv125 ev125 => ?_)
                              rw [c124, c122, c120, c118, c116, c114] at ev125
                              refine sf_iconst sf_c1 (fun z126 ez126 => ?_)
                              refine sf_iadd (by omega) (fun v127 ev127 => ?_)
                              refine sf_iastR Iw123 sw123 rfl (by omega) (by omega) rfl (fun w9 h1 h2 => sf_R_ln Iw123 h1 h2 (by have r3 := (sf_R3 Iw123 (d := a_l1) (by omega)).2; rw [sf_ma sw123 (p := 40) rfl] at r3; have r4 := r3 (by omega); omega)) (fun w128 Iw128 sw128 kw128 uw128 => ?_)
                              clear kw128 uw128
                              refine sf_iload rfl ?_
                              refine sf_ireturn rfl rfl ?_
                              refine sf_ireturn rfl rfl ?_
                              refine sf_i2l (fun v129 ev129 => ?_)
                              refine sf_last Iw128 sw128 rfl (by omega) rfl rfl (fun w130 Iw130 sw130 kw130 uw130 => ?_)
                              have c131 := sf_ma kw130 (p := 38) rfl
                              clear kw130 uw130
                              refine sf_iconst sf_c0 (fun z132 ez132 => ?_)
                              refine sf_ireturn rfl rfl ?_
                              exact hR _ _ Iw130 sw130 (by omega) (by omega) 
                          · refine sf_iconst sf_c0 (fun z133 ez133 => ?_)
                            refine sf_call1 rfl rfl rfl ?_
                            refine sf_sp (L := [(0, .inl (.int z133))]) rfl rfl ?_
                            refine sf_iload rfl ?_
                            refine sf_f1_eq (fun h134 => ?_) (fun h134 => absurd h134 (by omega))
                            refine sf_throw rfl rfl ?_
                            refine sf_xout rfl rfl ?_
                            refine sf_xhm rfl ?_
                            refine sf_xhh (L' := [(0, .inl (.ref 0)), (1, .inl (.int a_l1)), (2, .inl (.int a_l2)), (3, .inl (.int a_l3)), (4, .inl (.int a_l4)), (5, .inl (.int a_l5)), (6, .inl (.int a_l6)), (7, .inl (.int a_l7)), (8, .inl (.ref 130))]) rfl rfl ?_
                            refine sf_iconst sf_c2 (fun z135 ez135 => ?_)
                            refine sf_ireturn rfl rfl ?_
                            exact hR _ _ hI0 hs0 (by omega) (by omega) 
def sm_W_charge_0 : List Nat := [39]
set_option maxRecDepth 100000 in
set_option maxHeartbeats 4000000 in
theorem sc_W_charge_0 {w0 : wq_W} (hI0 : sf_I w0) {rt : Option wq_V → wq_W → Prop} {xt : Nat → wq_W → Prop} {a_l1 : Int32} {a_l2 : Int32} {a_l3 : Int32}  (hR : ∀ (r : Int32) (w : wq_W), sf_I w → sf_m sm_W_charge_0 w0 w → 0 ≤ r.toInt → r.toInt ≤ 2 → rt (some (.inl (.int r))) w) : ks_W_charge [.inl (.ref 0), .inl (.int a_l1), .inl (.int a_l2), .inl (.int a_l3)] w0 rt xt := by
  have hs0 : sf_m sm_W_charge_0 w0 w0 := sf_m0
  refine sf_sp (L := [(0, .inl (.ref 0)), (1, .inl (.int a_l1)), (2, .inl (.int a_l2)), (3, .inl (.int a_l3))]) rfl rfl ?_
  refine sf_aload rfl ?_
  refine sf_iload rfl ?_
  refine sf_iload rfl ?_
  refine sf_iload rfl ?_
  refine sf_call4 rfl rfl rfl ?_
  refine sf_rv hI0 rfl ?_
  refine sf_sp (L := [(0, .inl (.ref 0)), (1, .inl (.int a_l1)), (2, .inl (.int a_l2)), (3, .inl (.int a_l3))]) rfl rfl ?_
  refine sf_aload rfl ?_
  refine sf_iload rfl ?_
  refine sf_call2 rfl rfl rfl ?_
  refine sf_rv hI0 rfl ?_
  refine sf_sp (L := [(0, .inl (.ref 0)), (1, .inl (.int a_l1))]) rfl rfl ?_
  refine sf_iload rfl ?_
  refine sf_aload rfl ?_
  refine sf_getr hI0 rfl rfl ?_
  refine sf_geti hI0 rfl rfl (fun v1 lv1 uv1 ev1 => ?_)
  refine sf_call2 rfl rfl rfl ?_
  refine sf_sp (L := [(0, .inl (.int a_l1)), (1, .inl (.int v1))]) rfl rfl ?_
  refine sf_iconst sf_c0 (fun z2 ez2 => ?_)
  refine sf_iload rfl ?_
  refine sf_f2_gt (fun h3 => ?_) (fun h3 => ?_)
  · refine sf_iconst sf_c0 (fun z4 ez4 => ?_)
    refine sf_zreturn (by omega) rfl rfl ?_
    refine sf_zreturn (by omega) rfl rfl ?_
    refine sf_call1 rfl rfl rfl ?_
    refine sf_sp (L := [(0, .inl (.int z4))]) rfl rfl ?_
    refine sf_iload rfl ?_
    refine sf_f1_eq (fun h5 => ?_) (fun h5 => absurd h5 (by omega))
    refine sf_throw rfl rfl ?_
    refine sf_xout rfl rfl ?_
    refine sf_xhh (L' := [(0, .inl (.ref 0)), (1, .inl (.int a_l1)), (2, .inl (.int a_l2)), (3, .inl (.int a_l3))]) rfl rfl ?_
    refine sf_iconst sf_c1 (fun z6 ez6 => ?_)
    refine sf_ireturn rfl rfl ?_
    exact hR _ _ hI0 hs0 (by omega) (by omega) 
  · refine sf_iload rfl ?_
    refine sf_iload rfl ?_
    refine sf_f2_ge (fun h7 => ?_) (fun h7 => ?_)
    · refine sf_iconst sf_c0 (fun z8 ez8 => ?_)
      refine sf_zreturn (by omega) rfl rfl ?_
      refine sf_zreturn (by omega) rfl rfl ?_
      refine sf_call1 rfl rfl rfl ?_
      refine sf_sp (L := [(0, .inl (.int z8))]) rfl rfl ?_
      refine sf_iload rfl ?_
      refine sf_f1_eq (fun h9 => ?_) (fun h9 => absurd h9 (by omega))
      refine sf_throw rfl rfl ?_
      refine sf_xout rfl rfl ?_
      refine sf_xhh (L' := [(0, .inl (.ref 0)), (1, .inl (.int a_l1)), (2, .inl (.int a_l2)), (3, .inl (.int a_l3))]) rfl rfl ?_
      refine sf_iconst sf_c1 (fun z10 ez10 => ?_)
      refine sf_ireturn rfl rfl ?_
      exact hR _ _ hI0 hs0 (by omega) (by omega) 
    · refine sf_iconst sf_c1 (fun z11 ez11 => ?_)
      refine sf_zreturn (by omega) rfl rfl ?_
      refine sf_zreturn (by omega) rfl rfl ?_
      refine sf_call1 rfl rfl rfl ?_
      refine sf_sp (L := [(0, .inl (.int z11))]) rfl rfl ?_
      refine sf_iload rfl ?_
      refine sf_f1_eq (fun h12 => absurd h12 (by omega)) (fun h12 => ?_)
      refine sf_vreturn rfl rfl ?_
      refine sf_iload rfl ?_
      refine sf_iconst sf_c2 (fun z13 ez13 => ?_)
      refine sf_call2 rfl rfl rfl ?_
      refine sf_sp (L := [(0, .inl (.int a_l2)), (1, .inl (.int z13))]) rfl rfl ?_
      refine sf_iconst sf_c0 (fun z14 ez14 => ?_)
      refine sf_iload rfl ?_
      refine sf_f2_gt (fun h15 => ?_) (fun h15 => ?_)
      · refine sf_iconst sf_c0 (fun z16 ez16 => ?_)
        refine sf_zreturn (by omega) rfl rfl ?_
        refine sf_call1 rfl rfl rfl ?_
        refine sf_sp (L := [(0, .inl (.int z16))]) rfl rfl ?_
        refine sf_iload rfl ?_
        refine sf_f1_eq (fun h17 => ?_) (fun h17 => absurd h17 (by omega))
        refine sf_throw rfl rfl ?_
        refine sf_xout rfl rfl ?_
        refine sf_xhh (L' := [(0, .inl (.ref 0)), (1, .inl (.int a_l1)), (2, .inl (.int a_l2)), (3, .inl (.int a_l3))]) rfl rfl ?_
        refine sf_iconst sf_c1 (fun z18 ez18 => ?_)
        refine sf_ireturn rfl rfl ?_
        exact hR _ _ hI0 hs0 (by omega) (by omega) 
      · refine sf_iload rfl ?_
        refine sf_iload rfl ?_
        refine sf_f2_ge (fun h19 => ?_) (fun h19 => ?_)
        · refine sf_iconst sf_c0 (fun z20 ez20 => ?_)
          refine sf_zreturn (by omega) rfl rfl ?_
          refine sf_call1 rfl rfl rfl ?_
          refine sf_sp (L := [(0, .inl (.int z20))]) rfl rfl ?_
          refine sf_iload rfl ?_
          refine sf_f1_eq (fun h21 => ?_) (fun h21 => absurd h21 (by omega))
          refine sf_throw rfl rfl ?_
          refine sf_xout rfl rfl ?_
          refine sf_xhh (L' := [(0, .inl (.ref 0)), (1, .inl (.int a_l1)), (2, .inl (.int a_l2)), (3, .inl (.int a_l3))]) rfl rfl ?_
          refine sf_iconst sf_c1 (fun z22 ez22 => ?_)
          refine sf_ireturn rfl rfl ?_
          exact hR _ _ hI0 hs0 (by omega) (by omega) 
        · refine sf_iconst sf_c1 (fun z23 ez23 => ?_)
          refine sf_zreturn (by omega) rfl rfl ?_
          refine sf_call1 rfl rfl rfl ?_
          refine sf_sp (L := [(0, .inl (.int z23))]) rfl rfl ?_
          refine sf_iload rfl ?_
          refine sf_f1_eq (fun h24 => absurd h24 (by omega)) (fun h24 => ?_)
          refine sf_vreturn rfl rfl ?_
          refine sf_iload rfl ?_
          refine sf_iconst sf_c0 (fun z25 ez25 => ?_)
          refine sf_iconst sf_cl10000000 (fun z26 ez26 => ?_)
          refine sf_call3 rfl rfl rfl ?_
          refine sf_sp (L := [(0, .inl (.int a_l3)), (1, .inl (.int z25)), (2, .inl (.int z26))]) rfl rfl ?_
          refine sf_iload rfl ?_
          refine sf_iload rfl ?_
          refine sf_f2_gt (fun h27 => ?_) (fun h27 => ?_)
          · refine sf_iconst sf_c0 (fun z28 ez28 => ?_)
            refine sf_zreturn (by omega) rfl rfl ?_
            refine sf_call1 rfl rfl rfl ?_
            refine sf_sp (L := [(0, .inl (.int z28))]) rfl rfl ?_
            refine sf_iload rfl ?_
            refine sf_f1_eq (fun h29 => ?_) (fun h29 => absurd h29 (by omega))
            refine sf_throw rfl rfl ?_
            refine sf_xout rfl rfl ?_
            refine sf_xhh (L' := [(0, .inl (.ref 0)), (1, .inl (.int a_l1)), (2, .inl (.int a_l2)), (3, .inl (.int a_l3))]) rfl rfl ?_
            refine sf_iconst sf_c1 (fun z30 ez30 => ?_)
            refine sf_ireturn rfl rfl ?_
            exact hR _ _ hI0 hs0 (by omega) (by omega) 
          · refine sf_iload rfl ?_
            refine sf_iload rfl ?_
            refine sf_f2_gt (fun h31 => ?_) (fun h31 => ?_)
            · refine sf_iconst sf_c0 (fun z32 ez32 => ?_)
              refine sf_zreturn (by omega) rfl rfl ?_
              refine sf_call1 rfl rfl rfl ?_
              refine sf_sp (L := [(0, .inl (.int z32))]) rfl rfl ?_
              refine sf_iload rfl ?_
              refine sf_f1_eq (fun h33 => ?_) (fun h33 => absurd h33 (by omega))
              refine sf_throw rfl rfl ?_
              refine sf_xout rfl rfl ?_
              refine sf_xhh (L' := [(0, .inl (.ref 0)), (1, .inl (.int a_l1)), (2, .inl (.int a_l2)), (3, .inl (.int a_l3))]) rfl rfl ?_
              refine sf_iconst sf_c1 (fun z34 ez34 => ?_)
              refine sf_ireturn rfl rfl ?_
              exact hR _ _ hI0 hs0 (by omega) (by omega) 
            · refine sf_iconst sf_c1 (fun z35 ez35 => ?_)
              refine sf_zreturn (by omega) rfl rfl ?_
              refine sf_call1 rfl rfl rfl ?_
              refine sf_sp (L := [(0, .inl (.int z35))]) rfl rfl ?_
              refine sf_iload rfl ?_
              refine sf_f1_eq (fun h36 => absurd h36 (by omega)) (fun h36 => ?_)
              refine sf_vreturn rfl rfl ?_
              refine sf_aload rfl ?_
              refine sf_getr hI0 rfl rfl ?_
              refine sf_getr hI0 rfl rfl ?_
              refine sf_iload rfl ?_
              refine sf_zald hI0 rfl (by omega) (fun v37 lv37 uv37 ev37 => ?_)
              refine sf_f1_eq (fun h38 => ?_) (fun h38 => ?_)
              · refine sf_iconst sf_c1 (fun z39 ez39 => ?_)
                refine sf_call1 rfl rfl rfl ?_
                refine sf_sp (L := [(0, .inl (.int z39))]) rfl rfl ?_
                refine sf_iload rfl ?_
                refine sf_f1_eq (fun h40 => absurd h40 (by omega)) (fun h40 => ?_)
                refine sf_vreturn rfl rfl ?_
                refine sf_aload rfl ?_
                refine sf_getr hI0 rfl rfl ?_
                refine sf_getr hI0 rfl rfl ?_
                refine sf_iload rfl ?_
                refine sf_aald hI0 rfl (by omega) ?_
                refine sf_iload rfl ?_
                refine sf_iload rfl ?_
                refine sf_gast hI0 hs0 rfl (by omega) (by omega) (sf_bd _) rfl rfl (fun w41 Iw41 sw41 kw41 uw41 => ?_)
                clear kw41 uw41
                refine sf_vreturn rfl rfl ?_
                refine sf_iconst sf_c0 (fun z42 ez42 => ?_)
                refine sf_ireturn rfl rfl ?_
                exact hR _ _ Iw41 sw41 (by omega) (by omega) 
              · refine sf_iconst sf_c0 (fun z43 ez43 => ?_)
                refine sf_call1 rfl rfl rfl ?_
                refine sf_sp (L := [(0, .inl (.int z43))]) rfl rfl ?_
                refine sf_iload rfl ?_
                refine sf_f1_eq (fun h44 => ?_) (fun h44 => absurd h44 (by omega))
                refine sf_throw rfl rfl ?_
                refine sf_xout rfl rfl ?_
                refine sf_xhm rfl ?_
                refine sf_xhh (L' := [(0, .inl (.ref 0)), (1, .inl (.int a_l1)), (2, .inl (.int a_l2)), (3, .inl (.int a_l3))]) rfl rfl ?_
                refine sf_iconst sf_c2 (fun z45 ez45 => ?_)
                refine sf_ireturn rfl rfl ?_
                exact hR _ _ hI0 hs0 (by omega) (by omega) 
def sm_W_lineOf_0_130 : List Nat := [11, 12, 52, 53, 54, 55, 56, 57, 58, 59, 130]
set_option maxRecDepth 100000 in
set_option maxHeartbeats 4000000 in
theorem sc_W_lineOf_0_130 {w0 : wq_W} (hI0 : sf_I w0) {rt : Option wq_V → wq_W → Prop} {xt : Nat → wq_W → Prop} {a_l1 : Int32} {a_l2 : Int32} {a_l3 : Int32}  (hR : ∀ (r : Int32) (w : wq_W), sf_I w → sf_m sm_W_lineOf_0_130 w0 w → 0 ≤ r.toInt → r.toInt ≤ 2 → rt (some (.inl (.int r))) w) : ks_W_lineOf [.inl (.ref 0), .inl (.int a_l1), .inl (.int a_l2), .inl (.int a_l3), .inl (.ref 130)] w0 rt xt := by
  have hs0 : sf_m sm_W_lineOf_0_130 w0 w0 := sf_m0
  refine sf_sp (L := [(0, .inl (.ref 0)), (1, .inl (.int a_l1)), (2, .inl (.int a_l2)), (3, .inl (.int a_l3)), (4, .inl (.ref 130))]) rfl rfl ?_
  refine sf_aload rfl ?_
  refine sf_iconst sf_c0 (fun z1 ez1 => ?_)
  refine sf_aload rfl ?_
  refine sf_iload rfl ?_
  refine sf_iload rfl ?_
  refine sf_iload rfl ?_
  refine sf_call4 rfl rfl rfl ?_
  refine sf_rv hI0 rfl ?_
  refine sf_sp (L := [(0, .inl (.ref 0)), (1, .inl (.int a_l1)), (2, .inl (.int a_l2)), (3, .inl (.int a_l3))]) rfl rfl ?_
  refine sf_aload rfl ?_
  refine sf_iload rfl ?_
  refine sf_iload rfl ?_
  refine sf_call3 rfl rfl rfl ?_
  refine sf_rv hI0 rfl ?_
  refine sf_sp (L := [(0, .inl (.ref 0)), (1, .inl (.int a_l1)), (2, .inl (.int a_l2))]) rfl rfl ?_
  refine sf_aload rfl ?_
  refine sf_iload rfl ?_
  refine sf_call2 rfl rfl rfl ?_
  refine sf_rv hI0 rfl ?_
  refine sf_sp (L := [(0, .inl (.ref 0)), (1, .inl (.int a_l1))]) rfl rfl ?_
  refine sf_iload rfl ?_
  refine sf_aload rfl ?_
  refine sf_getr hI0 rfl rfl ?_
  refine sf_geti hI0 rfl rfl (fun v2 lv2 uv2 ev2 => ?_)
  refine sf_call2 rfl rfl rfl ?_
  refine sf_sp (L := [(0, .inl (.int a_l1)), (1, .inl (.int v2))]) rfl rfl ?_
  refine sf_iconst sf_c0 (fun z3 ez3 => ?_)
  refine sf_iload rfl ?_
  refine sf_f2_gt (fun h4 => ?_) (fun h4 => ?_)
  · refine sf_iconst sf_c0 (fun z5 ez5 => ?_)
    refine sf_zreturn (by omega) rfl rfl ?_
    refine sf_zreturn (by omega) rfl rfl ?_
    refine sf_f1_eq (fun h6 => ?_) (fun h6 => absurd h6 (by omega))
    refine sf_iconst sf_c0 (fun z7 ez7 => ?_)
    refine sf_zreturn (by omega) rfl rfl ?_
    refine sf_call1 rfl rfl rfl ?_
    refine sf_sp (L := [(0, .inl (.int z7))]) rfl rfl ?_
    refine sf_iload rfl ?_
    refine sf_f1_eq (fun h8 => ?_) (fun h8 => absurd h8 (by omega))
    refine sf_throw rfl rfl ?_
    refine sf_xout rfl rfl ?_
    refine sf_xhh (L' := [(0, .inl (.ref 0)), (1, .inl (.int a_l1)), (2, .inl (.int a_l2)), (3, .inl (.int a_l3)), (4, .inl (.ref 130))]) rfl rfl ?_
    refine sf_iconst sf_c1 (fun z9 ez9 => ?_)
    refine sf_ireturn rfl rfl ?_
    exact hR _ _ hI0 hs0 (by omega) (by omega) 
  · refine sf_iload rfl ?_
    refine sf_iload rfl ?_
    refine sf_f2_ge (fun h10 => ?_) (fun h10 => ?_)
    · refine sf_iconst sf_c0 (fun z11 ez11 => ?_)
      refine sf_zreturn (by omega) rfl rfl ?_
      refine sf_zreturn (by omega) rfl rfl ?_
      refine sf_f1_eq (fun h12 => ?_) (fun h12 => absurd h12 (by omega))
      refine sf_iconst sf_c0 (fun z13 ez13 => ?_)
      refine sf_zreturn (by omega) rfl rfl ?_
      refine sf_call1 rfl rfl rfl ?_
      refine sf_sp (L := [(0, .inl (.int z13))]) rfl rfl ?_
      refine sf_iload rfl ?_
      refine sf_f1_eq (fun h14 => ?_) (fun h14 => absurd h14 (by omega))
      refine sf_throw rfl rfl ?_
      refine sf_xout rfl rfl ?_
      refine sf_xhh (L' := [(0, .inl (.ref 0)), (1, .inl (.int a_l1)), (2, .inl (.int a_l2)), (3, .inl (.int a_l3)), (4, .inl (.ref 130))]) rfl rfl ?_
      refine sf_iconst sf_c1 (fun z15 ez15 => ?_)
      refine sf_ireturn rfl rfl ?_
      exact hR _ _ hI0 hs0 (by omega) (by omega) 
    · refine sf_iconst sf_c1 (fun z16 ez16 => ?_)
      refine sf_zreturn (by omega) rfl rfl ?_
      refine sf_zreturn (by omega) rfl rfl ?_
      refine sf_f1_eq (fun h17 => absurd h17 (by omega)) (fun h17 => ?_)
      refine sf_iload rfl ?_
      refine sf_aload rfl ?_
      refine sf_getr hI0 rfl rfl ?_
      refine sf_getr hI0 rfl rfl ?_
      refine sf_iload rfl ?_
      refine sf_iald hI0 rfl (by omega) (fun v18 lv18 uv18 ev18 => ?_)
      refine sf_call2 rfl rfl rfl ?_
      refine sf_sp (L := [(0, .inl (.int a_l2)), (1, .inl (.int v18))]) rfl rfl ?_
      refine sf_iconst sf_c0 (fun z19 ez19 => ?_)
      refine sf_iload rfl ?_
      refine sf_f2_gt (fun h20 => ?_) (fun h20 => ?_)
      · refine sf_iconst sf_c0 (fun z21 ez21 => ?_)
        refine sf_zreturn (by omega) rfl rfl ?_
        refine sf_f1_eq (fun h22 => ?_) (fun h22 => absurd h22 (by omega))
        refine sf_iconst sf_c0 (fun z23 ez23 => ?_)
        refine sf_zreturn (by omega) rfl rfl ?_
        refine sf_call1 rfl rfl rfl ?_
        refine sf_sp (L := [(0, .inl (.int z23))]) rfl rfl ?_
        refine sf_iload rfl ?_
        refine sf_f1_eq (fun h24 => ?_) (fun h24 => absurd h24 (by omega))
        refine sf_throw rfl rfl ?_
        refine sf_xout rfl rfl ?_
        refine sf_xhh (L' := [(0, .inl (.ref 0)), (1, .inl (.int a_l1)), (2, .inl (.int a_l2)), (3, .inl (.int a_l3)), (4, .inl (.ref 130))]) rfl rfl ?_
        refine sf_iconst sf_c1 (fun z25 ez25 => ?_)
        refine sf_ireturn rfl rfl ?_
        exact hR _ _ hI0 hs0 (by omega) (by omega) 
      · refine sf_iload rfl ?_
        refine sf_iload rfl ?_
        refine sf_f2_ge (fun h26 => ?_) (fun h26 => ?_)
        · refine sf_iconst sf_c0 (fun z27 ez27 => ?_)
          refine sf_zreturn (by omega) rfl rfl ?_
          refine sf_f1_eq (fun h28 => ?_) (fun h28 => absurd h28 (by omega))
          refine sf_iconst sf_c0 (fun z29 ez29 => ?_)
          refine sf_zreturn (by omega) rfl rfl ?_
          refine sf_call1 rfl rfl rfl ?_
          refine sf_sp (L := [(0, .inl (.int z29))]) rfl rfl ?_
          refine sf_iload rfl ?_
          refine sf_f1_eq (fun h30 => ?_) (fun h30 => absurd h30 (by omega))
          refine sf_throw rfl rfl ?_
          refine sf_xout rfl rfl ?_
          refine sf_xhh (L' := [(0, .inl (.ref 0)), (1, .inl (.int a_l1)), (2, .inl (.int a_l2)), (3, .inl (.int a_l3)), (4, .inl (.ref 130))]) rfl rfl ?_
          refine sf_iconst sf_c1 (fun z31 ez31 => ?_)
          refine sf_ireturn rfl rfl ?_
          exact hR _ _ hI0 hs0 (by omega) (by omega) 
        · refine sf_iconst sf_c1 (fun z32 ez32 => ?_)
          refine sf_zreturn (by omega) rfl rfl ?_
          refine sf_f1_eq (fun h33 => absurd h33 (by omega)) (fun h33 => ?_)
          refine sf_iconst sf_c1 (fun z34 ez34 => ?_)
          refine sf_zreturn (by omega) rfl rfl ?_
          refine sf_call1 rfl rfl rfl ?_
          refine sf_sp (L := [(0, .inl (.int z34))]) rfl rfl ?_
          refine sf_iload rfl ?_
          refine sf_f1_eq (fun h35 => absurd h35 (by omega)) (fun h35 => ?_)
          refine sf_vreturn rfl rfl ?_
          refine sf_iload rfl ?_
          refine sf_iconst sf_c0 (fun z36 ez36 => ?_)
          refine sf_iconst sf_c2 (fun z37 ez37 => ?_)
          refine sf_call3 rfl rfl rfl ?_
          refine sf_sp (L := [(0, .inl (.int a_l3)), (1, .inl (.int z36)), (2, .inl (.int z37))]) rfl rfl ?_
          refine sf_iload rfl ?_
          refine sf_iload rfl ?_
          refine sf_f2_gt (fun h38 => ?_) (fun h38 => ?_)
          · refine sf_iconst sf_c0 (fun z39 ez39 => ?_)
            refine sf_zreturn (by omega) rfl rfl ?_
            refine sf_call1 rfl rfl rfl ?_
            refine sf_sp (L := [(0, .inl (.int z39))]) rfl rfl ?_
            refine sf_iload rfl ?_
            refine sf_f1_eq (fun h40 => ?_) (fun h40 => absurd h40 (by omega))
            refine sf_throw rfl rfl ?_
            refine sf_xout rfl rfl ?_
            refine sf_xhh (L' := [(0, .inl (.ref 0)), (1, .inl (.int a_l1)), (2, .inl (.int a_l2)), (3, .inl (.int a_l3)), (4, .inl (.ref 130))]) rfl rfl ?_
            refine sf_iconst sf_c1 (fun z41 ez41 => ?_)
            refine sf_ireturn rfl rfl ?_
            exact hR _ _ hI0 hs0 (by omega) (by omega) 
          · refine sf_iload rfl ?_
            refine sf_iload rfl ?_
            refine sf_f2_gt (fun h42 => ?_) (fun h42 => ?_)
            · refine sf_iconst sf_c0 (fun z43 ez43 => ?_)
              refine sf_zreturn (by omega) rfl rfl ?_
              refine sf_call1 rfl rfl rfl ?_
              refine sf_sp (L := [(0, .inl (.int z43))]) rfl rfl ?_
              refine sf_iload rfl ?_
              refine sf_f1_eq (fun h44 => ?_) (fun h44 => absurd h44 (by omega))
              refine sf_throw rfl rfl ?_
              refine sf_xout rfl rfl ?_
              refine sf_xhh (L' := [(0, .inl (.ref 0)), (1, .inl (.int a_l1)), (2, .inl (.int a_l2)), (3, .inl (.int a_l3)), (4, .inl (.ref 130))]) rfl rfl ?_
              refine sf_iconst sf_c1 (fun z45 ez45 => ?_)
              refine sf_ireturn rfl rfl ?_
              exact hR _ _ hI0 hs0 (by omega) (by omega) 
            · refine sf_iconst sf_c1 (fun z46 ez46 => ?_)
              refine sf_zreturn (by omega) rfl rfl ?_
              refine sf_call1 rfl rfl rfl ?_
              refine sf_sp (L := [(0, .inl (.int z46))]) rfl rfl ?_
              refine sf_iload rfl ?_
              refine sf_f1_eq (fun h47 => absurd h47 (by omega)) (fun h47 => ?_)
              refine sf_vreturn rfl rfl ?_
              refine sf_iload rfl ?_
              refine sf_f1_eq (fun h48 => ?_) (fun h48 => ?_)
              · refine sf_aload rfl ?_
                refine sf_getr hI0 rfl rfl ?_
                refine sf_iload rfl ?_
                refine sf_iload rfl ?_
                refine sf_call3 rfl rfl rfl ?_
                refine sf_rv hI0 rfl ?_
                refine sf_sp (L := [(0, .inl (.ref 51)), (1, .inl (.int a_l1)), (2, .inl (.int a_l2))]) rfl rfl ?_
                refine sf_aload rfl ?_
                refine sf_iload rfl ?_
                refine sf_call2 rfl rfl rfl ?_
                refine sf_rv hI0 rfl ?_
                refine sc_A_findValues hI0 (by omega) (by omega) (fun w49 Iw49 tw49 => ?_)
                have s51 := sf_mt hs0 tw49 rfl
                have c52 := sf_ma tw49 (p := 55) rfl
                refine sf_aload rfl ?_
                refine sf_getr Iw49 rfl rfl ?_
                refine sf_iload rfl ?_
                refine sf_lald Iw49 rfl (by omega) (fun v53 ev53 => ?_)
                clear ev53
                refine sf_lreturn rfl rfl ?_
                refine sf_lreturn rfl rfl ?_
                refine sf_last Iw49 s51 rfl (by omega) rfl rfl (fun w54 Iw54 sw54 kw54 uw54 => ?_)
                have c55 := sf_ma kw54 (p := 55) rfl
                clear kw54 uw54
                refine sf_iconst sf_c0 (fun z56 ez56 => ?_)
                refine sf_ireturn rfl rfl ?_
                exact hR _ _ Iw54 sw54 (by omega) (by omega) 
              · refine sf_aload rfl ?_
                refine sf_getr hI0 rfl rfl ?_
                refine sf_getr hI0 rfl rfl ?_
                refine sf_iload rfl ?_
                refine sf_zald hI0 rfl (by omega) (fun v57 lv57 uv57 ev57 => ?_)
                refine sf_f1_eq (fun h58 => ?_) (fun h58 => ?_)
                · refine sf_aload rfl ?_
                  refine sf_getr hI0 rfl rfl ?_
                  refine sf_iload rfl ?_
                  refine sf_call2 rfl rfl rfl ?_
                  refine sf_rv hI0 rfl ?_
                  refine sc_A_canAssess hI0 (by omega) (by omega) (fun v59 w60 Iw60 tw60 ev59 => ?_) (fun v59 w60 Iw60 tw60 ev59 q61_0 => ?_)
                  · have s62 := sf_mt hs0 tw60 rfl
                    refine sf_call1 rfl rfl rfl ?_
                    refine sf_sp (L := [(0, .inl (.int v59))]) rfl rfl ?_
                    refine sf_iload rfl ?_
                    refine sf_f1_eq (fun h63 => ?_) (fun h63 => absurd h63 (by omega))
                    refine sf_throw rfl rfl ?_
                    refine sf_xout rfl rfl ?_
                    refine sf_xhm rfl ?_
                    refine sf_xhh (L' := [(0, .inl (.ref 0)), (1, .inl (.int a_l1)), (2, .inl (.int a_l2)), (3, .inl (.int a_l3)), (4, .inl (.ref 130))]) rfl rfl ?_
                    refine sf_iconst sf_c2 (fun z64 ez64 => ?_)
                    refine sf_ireturn rfl rfl ?_
                    exact hR _ _ Iw60 s62 (by omega) (by omega) 
                  · have s65 := sf_mt hs0 tw60 rfl
                    have r2 := q61_0
                    rw [sf_ma s65 (p := 38) rfl] at r2
                    refine sf_call1 rfl rfl rfl ?_
                    refine sf_sp (L := [(0, .inl (.int v59))]) rfl rfl ?_
                    refine sf_iload rfl ?_
                    refine sf_f1_eq (fun h66 => absurd h66 (by omega)) (fun h66 => ?_)
                    refine sf_vreturn rfl rfl ?_
                    refine sf_aload rfl ?_
                    refine sf_getr Iw60 rfl rfl ?_
                    refine sf_iload rfl ?_
                    refine sf_call2 rfl rfl rfl ?_
                    refine sf_rv Iw60 rfl ?_
                    refine sc_A_assess Iw60 (by omega) (by omega) (by rw [sf_ma s65 (p := 38) rfl]; exact r2) (fun w67 Iw67 tw67 => ?_)
                    have s69 := sf_mt s65 tw67 rfl
                    have c70 := sf_ma tw67 (p := 55) rfl
                    refine sf_iload rfl ?_
                    refine sf_iconst sf_c1 (fun z71 ez71 => ?_)
                    refine sf_f2_eq (fun h72 => ?_) (fun h72 => ?_)
                    · refine sf_aload rfl ?_
                      refine sf_getr Iw67 rfl rfl ?_
                      refine sf_getr Iw67 rfl rfl ?_
                      refine sf_iload rfl ?_
                      refine sf_iald Iw67 rfl (by omega) (fun v73 lv73 uv73 ev73 => ?_)
                      clear lv73 uv73
                      clear ev73
                      refine sf_i2lb (fun v74 ev74 lv74 uv74 => ?_)
                      refine sf_lreturn rfl rfl ?_
                      refine sf_last Iw67 s69 rfl (by omega) rfl rfl (fun w75 Iw75 sw75 kw75 uw75 => ?_)
                      have c76 := sf_ma kw75 (p := 55) rfl
                      clear kw75 uw75
                      refine sf_iconst sf_c0 (fun z77 ez77 => ?_)
                      refine sf_ireturn rfl rfl ?_
                      exact hR _ _ Iw75 sw75 (by omega) (by omega) 
                    · refine sf_aload rfl ?_
                      refine sf_getr Iw67 rfl rfl ?_
                      refine sf_getr Iw67 rfl rfl ?_
                      refine sf_iload rfl ?_
                      refine sf_lald Iw67 rfl (by omega) (fun v78 ev78 => ?_)
                      clear ev78
                      refine sf_lreturn rfl rfl ?_
                      refine sf_last Iw67 s69 rfl (by omega) rfl rfl (fun w79 Iw79 sw79 kw79 uw79 => ?_)
                      have c80 := sf_ma kw79 (p := 55) rfl
                      clear kw79 uw79
                      refine sf_iconst sf_c0 (fun z81 ez81 => ?_)
                      refine sf_ireturn rfl rfl ?_
                      exact hR _ _ Iw79 sw79 (by omega) (by omega) 
                · refine sf_iload rfl ?_
                  refine sf_iload rfl ?_
                  refine sf_call2 rfl rfl rfl ?_
                  refine sf_sp (L := [(0, .inl (.int a_l1)), (1, .inl (.int a_l2))]) rfl rfl ?_
                  refine sf_iload rfl ?_
                  refine sf_iconst sf_c4 (fun z82 ez82 => ?_)
                  refine sf_imulr (n := 4) (by omega) (by omega) (fun v83 ev83 => ?_)
                  refine sf_iload rfl ?_
                  refine sf_iadd (by omega) (fun v84 ev84 => ?_)
                  refine sf_ireturn rfl rfl ?_
                  refine sf_istore (L' := [(0, .inl (.ref 0)), (1, .inl (.int a_l1)), (2, .inl (.int a_l2)), (3, .inl (.int a_l3))]) rfl ?_
                  refine sf_iload rfl ?_
                  refine sf_iconst sf_c1 (fun z85 ez85 => ?_)
                  refine sf_f2_eq (fun h86 => ?_) (fun h86 => ?_)
                  · refine sf_aload rfl ?_
                    refine sf_getr hI0 rfl rfl ?_
                    refine sf_getr hI0 rfl rfl ?_
                    refine sf_iload rfl ?_
                    refine sf_iald hI0 rfl (by omega) (fun v87 lv87 uv87 ev87 => ?_)
                    clear lv87 uv87
                    clear ev87
                    refine sf_i2lb (fun v88 ev88 lv88 uv88 => ?_)
                    refine sf_lreturn rfl rfl ?_
                    refine sf_last hI0 hs0 rfl (by omega) rfl rfl (fun w89 Iw89 sw89 kw89 uw89 => ?_)
                    have c90 := sf_ma kw89 (p := 55) rfl
                    clear kw89 uw89
                    refine sf_iconst sf_c0 (fun z91 ez91 => ?_)
                    refine sf_ireturn rfl rfl ?_
                    exact hR _ _ Iw89 sw89 (by omega) (by omega) 
                  · refine sf_aload rfl ?_
                    refine sf_getr hI0 rfl rfl ?_
                    refine sf_getr hI0 rfl rfl ?_
                    refine sf_iload rfl ?_
                    refine sf_lald hI0 rfl (by omega) (fun v92 ev92 => ?_)
                    clear ev92
                    refine sf_lreturn rfl rfl ?_
                    refine sf_last hI0 hs0 rfl (by omega) rfl rfl (fun w93 Iw93 sw93 kw93 uw93 => ?_)
                    have c94 := sf_ma kw93 (p := 55) rfl
                    clear kw93 uw93
                    refine sf_iconst sf_c0 (fun z95 ez95 => ?_)
                    refine sf_ireturn rfl rfl ?_
                    exact hR _ _ Iw93 sw93 (by omega) (by omega) 
def sm_W_accept_0_130 : List Nat := [11, 12, 22, 40, 41, 48, 49, 50, 52, 53, 54, 55, 56, 57, 58, 59, 60, 61, 62, 64, 65, 66, 67, 130, 7000, 7700]
set_option maxRecDepth 100000 in
set_option maxHeartbeats 4000000 in
theorem sc_W_accept_0_130 {w0 : wq_W} (hI0 : sf_I w0) {rt : Option wq_V → wq_W → Prop} {xt : Nat → wq_W → Prop} {a_l1 : Int32}  (hR : ∀ (r : Int32) (w : wq_W), sf_I w → sf_m sm_W_accept_0_130 w0 w → 0 ≤ r.toInt → r.toInt ≤ 4 → rt (some (.inl (.int r))) w) : ks_W_accept [.inl (.ref 0), .inl (.int a_l1), .inl (.ref 130)] w0 rt xt := by
  have hs0 : sf_m sm_W_accept_0_130 w0 w0 := sf_m0
  refine sf_sp (L := [(0, .inl (.ref 0)), (1, .inl (.int a_l1)), (2, .inl (.ref 130))]) rfl rfl ?_
  refine sf_aload rfl ?_
  refine sf_iconst sf_c0 (fun z1 ez1 => ?_)
  refine sf_aload rfl ?_
  refine sf_iload rfl ?_
  refine sf_call2 rfl rfl rfl ?_
  refine sf_rv hI0 rfl ?_
  refine sf_sp (L := [(0, .inl (.ref 0)), (1, .inl (.int a_l1))]) rfl rfl ?_
  refine sf_aload rfl ?_
  refine sf_iload rfl ?_
  refine sf_call2 rfl rfl rfl ?_
  refine sf_rv hI0 rfl ?_
  refine sf_sp (L := [(0, .inl (.ref 0)), (1, .inl (.int a_l1))]) rfl rfl ?_
  refine sf_iload rfl ?_
  refine sf_aload rfl ?_
  refine sf_getr hI0 rfl rfl ?_
  refine sf_geti hI0 rfl rfl (fun v2 lv2 uv2 ev2 => ?_)
  refine sf_call2 rfl rfl rfl ?_
  refine sf_sp (L := [(0, .inl (.int a_l1)), (1, .inl (.int v2))]) rfl rfl ?_
  refine sf_iconst sf_c0 (fun z3 ez3 => ?_)
  refine sf_iload rfl ?_
  refine sf_f2_gt (fun h4 => ?_) (fun h4 => ?_)
  · refine sf_iconst sf_c0 (fun z5 ez5 => ?_)
    refine sf_zreturn (by omega) rfl rfl ?_
    refine sf_zreturn (by omega) rfl rfl ?_
    refine sf_call1 rfl rfl rfl ?_
    refine sf_sp (L := [(0, .inl (.int z5))]) rfl rfl ?_
    refine sf_iload rfl ?_
    refine sf_f1_eq (fun h6 => ?_) (fun h6 => absurd h6 (by omega))
    refine sf_throw rfl rfl ?_
    refine sf_xout rfl rfl ?_
    refine sf_xhh (L' := [(0, .inl (.ref 0)), (1, .inl (.int a_l1)), (2, .inl (.ref 130))]) rfl rfl ?_
    refine sf_iconst sf_c1 (fun z7 ez7 => ?_)
    refine sf_ireturn rfl rfl ?_
    exact hR _ _ hI0 hs0 (by omega) (by omega) 
  · refine sf_iload rfl ?_
    refine sf_iload rfl ?_
    refine sf_f2_ge (fun h8 => ?_) (fun h8 => ?_)
    · refine sf_iconst sf_c0 (fun z9 ez9 => ?_)
      refine sf_zreturn (by omega) rfl rfl ?_
      refine sf_zreturn (by omega) rfl rfl ?_
      refine sf_call1 rfl rfl rfl ?_
      refine sf_sp (L := [(0, .inl (.int z9))]) rfl rfl ?_
      refine sf_iload rfl ?_
      refine sf_f1_eq (fun h10 => ?_) (fun h10 => absurd h10 (by omega))
      refine sf_throw rfl rfl ?_
      refine sf_xout rfl rfl ?_
      refine sf_xhh (L' := [(0, .inl (.ref 0)), (1, .inl (.int a_l1)), (2, .inl (.ref 130))]) rfl rfl ?_
      refine sf_iconst sf_c1 (fun z11 ez11 => ?_)
      refine sf_ireturn rfl rfl ?_
      exact hR _ _ hI0 hs0 (by omega) (by omega) 
    · refine sf_iconst sf_c1 (fun z12 ez12 => ?_)
      refine sf_zreturn (by omega) rfl rfl ?_
      refine sf_zreturn (by omega) rfl rfl ?_
      refine sf_call1 rfl rfl rfl ?_
      refine sf_sp (L := [(0, .inl (.int z12))]) rfl rfl ?_
      refine sf_iload rfl ?_
      refine sf_f1_eq (fun h13 => absurd h13 (by omega)) (fun h13 => ?_)
      refine sf_vreturn rfl rfl ?_
      refine sf_aload rfl ?_
      refine sf_getr hI0 rfl rfl ?_
      refine sf_getr hI0 rfl rfl ?_
      refine sf_iload rfl ?_
      refine sf_zald hI0 rfl (by omega) (fun v14 lv14 uv14 ev14 => ?_)
      refine sf_f1_eq (fun h15 => ?_) (fun h15 => ?_)
      · refine sf_iconst sf_c1 (fun z16 ez16 => ?_)
        refine sf_call1 rfl rfl rfl ?_
        refine sf_sp (L := [(0, .inl (.int z16))]) rfl rfl ?_
        refine sf_iload rfl ?_
        refine sf_f1_eq (fun h17 => absurd h17 (by omega)) (fun h17 => ?_)
        refine sf_vreturn rfl rfl ?_
        refine sf_aload rfl ?_
        refine sf_getr hI0 rfl rfl ?_
        refine sf_iload rfl ?_
        refine sf_call2 rfl rfl rfl ?_
        refine sf_rv hI0 rfl ?_
        refine sc_D_isLaterAccepted hI0 (by omega) (by omega) (fun v18 lv18 uv18 => ?_)
        refine sf_f1_eq (fun h20 => ?_) (fun h20 => ?_)
        · refine sf_iconst sf_c1 (fun z21 ez21 => ?_)
          refine sf_call1 rfl rfl rfl ?_
          refine sf_sp (L := [(0, .inl (.int z21))]) rfl rfl ?_
          refine sf_iload rfl ?_
          refine sf_f1_eq (fun h22 => absurd h22 (by omega)) (fun h22 => ?_)
          refine sf_vreturn rfl rfl ?_
          refine sf_aload rfl ?_
          refine sf_getr hI0 rfl rfl ?_
          refine sf_iload rfl ?_
          refine sf_call2 rfl rfl rfl ?_
          refine sf_rv hI0 rfl ?_
          refine sc_A_canAssess hI0 (by omega) (by omega) (fun v23 w24 Iw24 tw24 ev23 => ?_) (fun v23 w24 Iw24 tw24 ev23 q25_0 => ?_)
          · have s26 := sf_mt hs0 tw24 rfl
            have c27 := sf_mf tw24 (p := 60) (j := 0) rfl
            have c28 := sf_ma tw24 (p := 40) rfl
            refine sf_call1 rfl rfl rfl ?_
            refine sf_sp (L := [(0, .inl (.int v23))]) rfl rfl ?_
            refine sf_iload rfl ?_
            refine sf_f1_eq (fun h29 => ?_) (fun h29 => absurd h29 (by omega))
            refine sf_throw rfl rfl ?_
            refine sf_xout rfl rfl ?_
            refine sf_xhm rfl ?_
            refine sf_xhm rfl ?_
            refine sf_xhh (L' := [(0, .inl (.ref 0)), (1, .inl (.int a_l1)), (2, .inl (.ref 130))]) rfl rfl ?_
            refine sf_iconst sf_c3 (fun z30 ez30 => ?_)
            refine sf_ireturn rfl rfl ?_
            exact hR _ _ Iw24 s26 (by omega) (by omega) 
          · have s31 := sf_mt hs0 tw24 rfl
            have c32 := sf_mf tw24 (p := 60) (j := 0) rfl
            have c33 := sf_ma tw24 (p := 40) rfl
            have r2 := q25_0
            rw [sf_ma s31 (p := 38) rfl] at r2
            refine sf_call1 rfl rfl rfl ?_
            refine sf_sp (L := [(0, .inl (.int v23))]) rfl rfl ?_
            refine sf_iload rfl ?_
            refine sf_f1_eq (fun h34 => absurd h34 (by omega)) (fun h34 => ?_)
            refine sf_vreturn rfl rfl ?_
            refine sf_aload rfl ?_
            refine sf_getr Iw24 rfl rfl ?_
            refine sf_geti Iw24 rfl rfl (fun v35 lv35 uv35 ev35 => ?_)
            rw [c32] at ev35
            refine sf_aload rfl ?_
            refine sf_getr Iw24 rfl rfl ?_
            refine sf_getr Iw24 rfl rfl ?_
            refine sf_iload rfl ?_
            refine sf_iald Iw24 rfl (by omega) (fun v36 lv36 uv36 ev36 => ?_)
            rw [sf_ma s31 (p := 38) rfl] at ev36
            refine sf_iadd (by omega) (fun v37 ev37 => ?_)
            refine sf_call1 rfl rfl rfl ?_
            refine sf_sp (L := [(0, .inl (.int v37))]) rfl rfl ?_
            refine sf_iload rfl ?_
            refine sf_iconst sf_c40 (fun z38 ez38 => ?_)
            refine sf_f2_le (fun h39 => ?_) (fun h39 => ?_)
            · refine sf_vreturn rfl rfl ?_
              refine sf_aload rfl ?_
              refine sf_getr Iw24 rfl rfl ?_
              refine sf_iload rfl ?_
              refine sf_call2 rfl rfl rfl ?_
              refine sf_rv Iw24 rfl ?_
              refine sc_A_assess Iw24 (by omega) (by omega) (by rw [sf_ma s31 (p := 38) rfl]; exact r2) (fun w40 Iw40 tw40 => ?_)
              have s42 := sf_mt s31 tw40 rfl
              have c43 := sf_ma tw40 (p := 55) rfl
              have c44 := sf_mf tw40 (p := 60) (j := 0) rfl
              have c45 := sf_ma tw40 (p := 40) rfl
              refine sf_aload rfl ?_
              refine sf_getr Iw40 rfl rfl ?_
              refine sf_iload rfl ?_
              refine sf_call2 rfl rfl rfl ?_
              refine sf_rv Iw40 rfl ?_
              refine sc_A_book Iw40 (by omega) (by omega) (fun w46 Iw46 tw46 => ?_)
              have s48 := sf_mt s42 tw46 rfl
              have c49 := sf_ma tw46 (p := 55) rfl
              have c50 := sf_mf tw46 (p := 60) (j := 0) rfl
              have c51 := sf_ma tw46 (p := 40) rfl
              refine sf_aload rfl ?_
              refine sf_getr Iw46 rfl rfl ?_
              refine sf_getr Iw46 rfl rfl ?_
              refine sf_iload rfl ?_
              refine sf_iconst sf_c1 (fun z52 ez52 => ?_)
              refine sf_zastR Iw46 s48 rfl (by omega) (by omega) rfl (fun w9 h1 h2 => sf_R_ac Iw46 h1 h2 (by omega)) (fun w53 Iw53 sw53 kw53 uw53 => ?_)
              have c54 := sf_ma kw53 (p := 55) rfl
              have c55 := sf_mf kw53 (p := 60) (j := 0) rfl
              clear kw53
              have gacc := uw53
              refine sf_aload rfl ?_
              refine sf_iload rfl ?_
              refine sf_call2 rfl rfl rfl ?_
              refine sf_rv Iw53 rfl ?_
              refine sc_B_makeLots Iw53 (by omega) (by omega) (by rw [sf_ma sw53 (p := 38) rfl, c55, c50, c44, c32]; omega) (by rw [gacc]; unfold upd; rw [if_pos rfl]; omega) (fun w56 Iw56 tw56 => ?_)
              have s58 := sf_mt sw53 tw56 rfl
              have c59 := sf_ma tw56 (p := 55) rfl
              have c60 := sf_ma tw56 (p := 40) rfl
              refine sf_aload rfl ?_
              refine sf_getr Iw56 rfl rfl ?_
              refine sf_iload rfl ?_
              refine sf_call2 rfl rfl rfl ?_
              refine sf_rv Iw56 rfl ?_
              refine sc_D_dutyOfAll Iw56 (by omega) (by omega) (fun v61 => ?_)
              refine sf_lreturn rfl rfl ?_
              refine sf_last Iw56 s58 rfl (by omega) rfl rfl (fun w63 Iw63 sw63 kw63 uw63 => ?_)
              have c64 := sf_ma kw63 (p := 55) rfl
              have c65 := sf_mf kw63 (p := 60) (j := 0) rfl
              have c66 := sf_ma kw63 (p := 40) rfl
              clear kw63 uw63
              refine sf_iconst sf_c0 (fun z67 ez67 => ?_)
              refine sf_ireturn rfl rfl ?_
              exact hR _ _ Iw63 sw63 (by omega) (by omega) 
            · refine sf_throw rfl rfl ?_
              refine sf_xout rfl rfl ?_
              refine sf_xhm rfl ?_
              refine sf_xhm rfl ?_
              refine sf_xhm rfl ?_
              refine sf_xhh (L' := [(0, .inl (.ref 0)), (1, .inl (.int a_l1)), (2, .inl (.ref 130))]) rfl rfl ?_
              refine sf_iconst sf_c4 (fun z68 ez68 => ?_)
              refine sf_ireturn rfl rfl ?_
              exact hR _ _ Iw24 s31 (by omega) (by omega) 
        · refine sf_iconst sf_c0 (fun z69 ez69 => ?_)
          refine sf_call1 rfl rfl rfl ?_
          refine sf_sp (L := [(0, .inl (.int z69))]) rfl rfl ?_
          refine sf_iload rfl ?_
          refine sf_f1_eq (fun h70 => ?_) (fun h70 => absurd h70 (by omega))
          refine sf_throw rfl rfl ?_
          refine sf_xout rfl rfl ?_
          refine sf_xhm rfl ?_
          refine sf_xhh (L' := [(0, .inl (.ref 0)), (1, .inl (.int a_l1)), (2, .inl (.ref 130))]) rfl rfl ?_
          refine sf_iconst sf_c2 (fun z71 ez71 => ?_)
          refine sf_ireturn rfl rfl ?_
          exact hR _ _ hI0 hs0 (by omega) (by omega) 
      · refine sf_iconst sf_c0 (fun z72 ez72 => ?_)
        refine sf_call1 rfl rfl rfl ?_
        refine sf_sp (L := [(0, .inl (.int z72))]) rfl rfl ?_
        refine sf_iload rfl ?_
        refine sf_f1_eq (fun h73 => ?_) (fun h73 => absurd h73 (by omega))
        refine sf_throw rfl rfl ?_
        refine sf_xout rfl rfl ?_
        refine sf_xhm rfl ?_
        refine sf_xhh (L' := [(0, .inl (.ref 0)), (1, .inl (.int a_l1)), (2, .inl (.ref 130))]) rfl rfl ?_
        refine sf_iconst sf_c2 (fun z74 ez74 => ?_)
        refine sf_ireturn rfl rfl ?_
        exact hR _ _ hI0 hs0 (by omega) (by omega) 
def sm_W_amend_0_130 : List Nat := [11, 12, 22, 44, 45, 46, 48, 49, 50, 52, 53, 54, 55, 56, 57, 58, 59, 62, 64, 67, 130, 7700]
set_option maxRecDepth 100000 in
set_option maxHeartbeats 4000000 in
theorem sc_W_amend_0_130 {w0 : wq_W} (hI0 : sf_I w0) {rt : Option wq_V → wq_W → Prop} {xt : Nat → wq_W → Prop} {a_l1 : Int32} {a_l2 : Int32} {a_l3 : Int32} {a_l4 : Int32}  (hR : ∀ (r : Int32) (w : wq_W), sf_I w → sf_m sm_W_amend_0_130 w0 w → 0 ≤ r.toInt → r.toInt ≤ 3 → rt (some (.inl (.int r))) w) : ks_W_amend [.inl (.ref 0), .inl (.int a_l1), .inl (.int a_l2), .inl (.int a_l3), .inl (.int a_l4), .inl (.ref 130)] w0 rt xt := by
  have hs0 : sf_m sm_W_amend_0_130 w0 w0 := sf_m0
  refine sf_sp (L := [(0, .inl (.ref 0)), (1, .inl (.int a_l1)), (2, .inl (.int a_l2)), (3, .inl (.int a_l3)), (4, .inl (.int a_l4)), (5, .inl (.ref 130))]) rfl rfl ?_
  refine sf_aload rfl ?_
  refine sf_iconst sf_c0 (fun z1 ez1 => ?_)
  refine sf_aload rfl ?_
  refine sf_iload rfl ?_
  refine sf_iload rfl ?_
  refine sf_iload rfl ?_
  refine sf_iload rfl ?_
  refine sf_call5 rfl rfl rfl ?_
  refine sf_rv hI0 rfl ?_
  refine sf_sp (L := [(0, .inl (.ref 0)), (1, .inl (.int a_l1)), (2, .inl (.int a_l2)), (3, .inl (.int a_l3)), (4, .inl (.int a_l4))]) rfl rfl ?_
  refine sf_aload rfl ?_
  refine sf_iload rfl ?_
  refine sf_iload rfl ?_
  refine sf_call3 rfl rfl rfl ?_
  refine sf_rv hI0 rfl ?_
  refine sf_sp (L := [(0, .inl (.ref 0)), (1, .inl (.int a_l1)), (2, .inl (.int a_l2))]) rfl rfl ?_
  refine sf_aload rfl ?_
  refine sf_iload rfl ?_
  refine sf_call2 rfl rfl rfl ?_
  refine sf_rv hI0 rfl ?_
  refine sf_sp (L := [(0, .inl (.ref 0)), (1, .inl (.int a_l1))]) rfl rfl ?_
  refine sf_iload rfl ?_
  refine sf_aload rfl ?_
  refine sf_getr hI0 rfl rfl ?_
  refine sf_geti hI0 rfl rfl (fun v2 lv2 uv2 ev2 => ?_)
  refine sf_call2 rfl rfl rfl ?_
  refine sf_sp (L := [(0, .inl (.int a_l1)), (1, .inl (.int v2))]) rfl rfl ?_
  refine sf_iconst sf_c0 (fun z3 ez3 => ?_)
  refine sf_iload rfl ?_
  refine sf_f2_gt (fun h4 => ?_) (fun h4 => ?_)
  · refine sf_iconst sf_c0 (fun z5 ez5 => ?_)
    refine sf_zreturn (by omega) rfl rfl ?_
    refine sf_zreturn (by omega) rfl rfl ?_
    refine sf_f1_eq (fun h6 => ?_) (fun h6 => absurd h6 (by omega))
    refine sf_iconst sf_c0 (fun z7 ez7 => ?_)
    refine sf_zreturn (by omega) rfl rfl ?_
    refine sf_call1 rfl rfl rfl ?_
    refine sf_sp (L := [(0, .inl (.int z7))]) rfl rfl ?_
    refine sf_iload rfl ?_
    refine sf_f1_eq (fun h8 => ?_) (fun h8 => absurd h8 (by omega))
    refine sf_throw rfl rfl ?_
    refine sf_xout rfl rfl ?_
    refine sf_xhh (L' := [(0, .inl (.ref 0)), (1, .inl (.int a_l1)), (2, .inl (.int a_l2)), (3, .inl (.int a_l3)), (4, .inl (.int a_l4)), (5, .inl (.ref 130))]) rfl rfl ?_
    refine sf_iconst sf_c1 (fun z9 ez9 => ?_)
    refine sf_ireturn rfl rfl ?_
    exact hR _ _ hI0 hs0 (by omega) (by omega) 
  · refine sf_iload rfl ?_
    refine sf_iload rfl ?_
    refine sf_f2_ge (fun h10 => ?_) (fun h10 => ?_)
    · refine sf_iconst sf_c0 (fun z11 ez11 => ?_)
      refine sf_zreturn (by omega) rfl rfl ?_
      refine sf_zreturn (by omega) rfl rfl ?_
      refine sf_f1_eq (fun h12 => ?_) (fun h12 => absurd h12 (by omega))
      refine sf_iconst sf_c0 (fun z13 ez13 => ?_)
      refine sf_zreturn (by omega) rfl rfl ?_
      refine sf_call1 rfl rfl rfl ?_
      refine sf_sp (L := [(0, .inl (.int z13))]) rfl rfl ?_
      refine sf_iload rfl ?_
      refine sf_f1_eq (fun h14 => ?_) (fun h14 => absurd h14 (by omega))
      refine sf_throw rfl rfl ?_
      refine sf_xout rfl rfl ?_
      refine sf_xhh (L' := [(0, .inl (.ref 0)), (1, .inl (.int a_l1)), (2, .inl (.int a_l2)), (3, .inl (.int a_l3)), (4, .inl (.int a_l4)), (5, .inl (.ref 130))]) rfl rfl ?_
      refine sf_iconst sf_c1 (fun z15 ez15 => ?_)
      refine sf_ireturn rfl rfl ?_
      exact hR _ _ hI0 hs0 (by omega) (by omega) 
    · refine sf_iconst sf_c1 (fun z16 ez16 => ?_)
      refine sf_zreturn (by omega) rfl rfl ?_
      refine sf_zreturn (by omega) rfl rfl ?_
      refine sf_f1_eq (fun h17 => absurd h17 (by omega)) (fun h17 => ?_)
      refine sf_iload rfl ?_
      refine sf_aload rfl ?_
      refine sf_getr hI0 rfl rfl ?_
      refine sf_getr hI0 rfl rfl ?_
      refine sf_iload rfl ?_
      refine sf_iald hI0 rfl (by omega) (fun v18 lv18 uv18 ev18 => ?_)
      refine sf_call2 rfl rfl rfl ?_
      refine sf_sp (L := [(0, .inl (.int a_l2)), (1, .inl (.int v18))]) rfl rfl ?_
      refine sf_iconst sf_c0 (fun z19 ez19 => ?_)
      refine sf_iload rfl ?_
      refine sf_f2_gt (fun h20 => ?_) (fun h20 => ?_)
      · refine sf_iconst sf_c0 (fun z21 ez21 => ?_)
        refine sf_zreturn (by omega) rfl rfl ?_
        refine sf_f1_eq (fun h22 => ?_) (fun h22 => absurd h22 (by omega))
        refine sf_iconst sf_c0 (fun z23 ez23 => ?_)
        refine sf_zreturn (by omega) rfl rfl ?_
        refine sf_call1 rfl rfl rfl ?_
        refine sf_sp (L := [(0, .inl (.int z23))]) rfl rfl ?_
        refine sf_iload rfl ?_
        refine sf_f1_eq (fun h24 => ?_) (fun h24 => absurd h24 (by omega))
        refine sf_throw rfl rfl ?_
        refine sf_xout rfl rfl ?_
        refine sf_xhh (L' := [(0, .inl (.ref 0)), (1, .inl (.int a_l1)), (2, .inl (.int a_l2)), (3, .inl (.int a_l3)), (4, .inl (.int a_l4)), (5, .inl (.ref 130))]) rfl rfl ?_
        refine sf_iconst sf_c1 (fun z25 ez25 => ?_)
        refine sf_ireturn rfl rfl ?_
        exact hR _ _ hI0 hs0 (by omega) (by omega) 
      · refine sf_iload rfl ?_
        refine sf_iload rfl ?_
        refine sf_f2_ge (fun h26 => ?_) (fun h26 => ?_)
        · refine sf_iconst sf_c0 (fun z27 ez27 => ?_)
          refine sf_zreturn (by omega) rfl rfl ?_
          refine sf_f1_eq (fun h28 => ?_) (fun h28 => absurd h28 (by omega))
          refine sf_iconst sf_c0 (fun z29 ez29 => ?_)
          refine sf_zreturn (by omega) rfl rfl ?_
          refine sf_call1 rfl rfl rfl ?_
          refine sf_sp (L := [(0, .inl (.int z29))]) rfl rfl ?_
          refine sf_iload rfl ?_
          refine sf_f1_eq (fun h30 => ?_) (fun h30 => absurd h30 (by omega))
          refine sf_throw rfl rfl ?_
          refine sf_xout rfl rfl ?_
          refine sf_xhh (L' := [(0, .inl (.ref 0)), (1, .inl (.int a_l1)), (2, .inl (.int a_l2)), (3, .inl (.int a_l3)), (4, .inl (.int a_l4)), (5, .inl (.ref 130))]) rfl rfl ?_
          refine sf_iconst sf_c1 (fun z31 ez31 => ?_)
          refine sf_ireturn rfl rfl ?_
          exact hR _ _ hI0 hs0 (by omega) (by omega) 
        · refine sf_iconst sf_c1 (fun z32 ez32 => ?_)
          refine sf_zreturn (by omega) rfl rfl ?_
          refine sf_f1_eq (fun h33 => absurd h33 (by omega)) (fun h33 => ?_)
          refine sf_iconst sf_c1 (fun z34 ez34 => ?_)
          refine sf_zreturn (by omega) rfl rfl ?_
          refine sf_call1 rfl rfl rfl ?_
          refine sf_sp (L := [(0, .inl (.int z34))]) rfl rfl ?_
          refine sf_iload rfl ?_
          refine sf_f1_eq (fun h35 => absurd h35 (by omega)) (fun h35 => ?_)
          refine sf_vreturn rfl rfl ?_
          refine sf_iload rfl ?_
          refine sf_iload rfl ?_
          refine sf_call2 rfl rfl rfl ?_
          refine sf_sp (L := [(0, .inl (.int a_l3)), (1, .inl (.int a_l4))]) rfl rfl ?_
          refine sf_iload rfl ?_
          refine sf_sw1 sf_c0 (fun h36 => ?_) (fun h36 => ?_)
          · refine sf_iload rfl ?_
            refine sf_iconst sf_c1 (fun z37 ez37 => ?_)
            refine sf_iconst sf_c1000 (fun z38 ez38 => ?_)
            refine sf_call3 rfl rfl rfl ?_
            refine sf_sp (L := [(0, .inl (.int a_l4)), (1, .inl (.int z37)), (2, .inl (.int z38))]) rfl rfl ?_
            refine sf_iload rfl ?_
            refine sf_iload rfl ?_
            refine sf_f2_gt (fun h39 => ?_) (fun h39 => ?_)
            · refine sf_iconst sf_c0 (fun z40 ez40 => ?_)
              refine sf_zreturn (by omega) rfl rfl ?_
              refine sf_zreturn (by omega) rfl rfl ?_
              refine sf_call1 rfl rfl rfl ?_
              refine sf_sp (L := [(0, .inl (.int z40))]) rfl rfl ?_
              refine sf_iload rfl ?_
              refine sf_f1_eq (fun h41 => ?_) (fun h41 => absurd h41 (by omega))
              refine sf_throw rfl rfl ?_
              refine sf_xout rfl rfl ?_
              refine sf_xhh (L' := [(0, .inl (.ref 0)), (1, .inl (.int a_l1)), (2, .inl (.int a_l2)), (3, .inl (.int a_l3)), (4, .inl (.int a_l4)), (5, .inl (.ref 130))]) rfl rfl ?_
              refine sf_iconst sf_c1 (fun z42 ez42 => ?_)
              refine sf_ireturn rfl rfl ?_
              exact hR _ _ hI0 hs0 (by omega) (by omega) 
            · refine sf_iload rfl ?_
              refine sf_iload rfl ?_
              refine sf_f2_gt (fun h43 => ?_) (fun h43 => ?_)
              · refine sf_iconst sf_c0 (fun z44 ez44 => ?_)
                refine sf_zreturn (by omega) rfl rfl ?_
                refine sf_zreturn (by omega) rfl rfl ?_
                refine sf_call1 rfl rfl rfl ?_
                refine sf_sp (L := [(0, .inl (.int z44))]) rfl rfl ?_
                refine sf_iload rfl ?_
                refine sf_f1_eq (fun h45 => ?_) (fun h45 => absurd h45 (by omega))
                refine sf_throw rfl rfl ?_
                refine sf_xout rfl rfl ?_
                refine sf_xhh (L' := [(0, .inl (.ref 0)), (1, .inl (.int a_l1)), (2, .inl (.int a_l2)), (3, .inl (.int a_l3)), (4, .inl (.int a_l4)), (5, .inl (.ref 130))]) rfl rfl ?_
                refine sf_iconst sf_c1 (fun z46 ez46 => ?_)
                refine sf_ireturn rfl rfl ?_
                exact hR _ _ hI0 hs0 (by omega) (by omega) 
              · refine sf_iconst sf_c1 (fun z47 ez47 => ?_)
                refine sf_zreturn (by omega) rfl rfl ?_
                refine sf_zreturn (by omega) rfl rfl ?_
                refine sf_call1 rfl rfl rfl ?_
                refine sf_sp (L := [(0, .inl (.int z47))]) rfl rfl ?_
                refine sf_iload rfl ?_
                refine sf_f1_eq (fun h48 => absurd h48 (by omega)) (fun h48 => ?_)
                refine sf_vreturn rfl rfl ?_
                refine sf_aload rfl ?_
                refine sf_getr hI0 rfl rfl ?_
                refine sf_getr hI0 rfl rfl ?_
                refine sf_iload rfl ?_
                refine sf_zald hI0 rfl (by omega) (fun v49 lv49 uv49 ev49 => ?_)
                refine sf_call1 rfl rfl rfl ?_
                refine sf_sp (L := [(0, .inl (.int v49))]) rfl rfl ?_
                refine sf_iload rfl ?_
                refine sf_f1_eq (fun h50 => ?_) (fun h50 => ?_)
                · refine sf_throw rfl rfl ?_
                  refine sf_xout rfl rfl ?_
                  refine sf_xhm rfl ?_
                  refine sf_xhh (L' := [(0, .inl (.ref 0)), (1, .inl (.int a_l1)), (2, .inl (.int a_l2)), (3, .inl (.int a_l3)), (4, .inl (.int a_l4)), (5, .inl (.ref 130))]) rfl rfl ?_
                  refine sf_iconst sf_c2 (fun z51 ez51 => ?_)
                  refine sf_ireturn rfl rfl ?_
                  exact hR _ _ hI0 hs0 (by omega) (by omega) 
                · refine sf_vreturn rfl rfl ?_
                  refine sf_aload rfl ?_
                  refine sf_iload rfl ?_
                  refine sf_call2 rfl rfl rfl ?_
                  refine sf_rv hI0 rfl ?_
                  refine sc_B_hasGoneUnits hI0 (by omega) (by omega) (fun v52 lv52 uv52 => ?_)
                  refine sf_f1_eq (fun h54 => ?_) (fun h54 => ?_)
                  · refine sf_iconst sf_c1 (fun z55 ez55 => ?_)
                    refine sf_call1 rfl rfl rfl ?_
                    refine sf_sp (L := [(0, .inl (.int z55))]) rfl rfl ?_
                    refine sf_iload rfl ?_
                    refine sf_f1_eq (fun h56 => absurd h56 (by omega)) (fun h56 => ?_)
                    refine sf_vreturn rfl rfl ?_
                    refine sf_aload rfl ?_
                    refine sf_getr hI0 rfl rfl ?_
                    refine sf_iload rfl ?_
                    refine sf_call2 rfl rfl rfl ?_
                    refine sf_rv hI0 rfl ?_
                    refine sc_A_canAssess hI0 (by omega) (by omega) (fun v57 w58 Iw58 tw58 ev57 => ?_) (fun v57 w58 Iw58 tw58 ev57 q59_0 => ?_)
                    · have s60 := sf_mt hs0 tw58 rfl
                      refine sf_call1 rfl rfl rfl ?_
                      refine sf_sp (L := [(0, .inl (.int v57))]) rfl rfl ?_
                      refine sf_iload rfl ?_
                      refine sf_f1_eq (fun h61 => ?_) (fun h61 => absurd h61 (by omega))
                      refine sf_throw rfl rfl ?_
                      refine sf_xout rfl rfl ?_
                      refine sf_xhm rfl ?_
                      refine sf_xhm rfl ?_
                      refine sf_xhh (L' := [(0, .inl (.ref 0)), (1, .inl (.int a_l1)), (2, .inl (.int a_l2)), (3, .inl (.int a_l3)), (4, .inl (.int a_l4)), (5, .inl (.ref 130))]) rfl rfl ?_
                      refine sf_iconst sf_c3 (fun z62 ez62 => ?_)
                      refine sf_ireturn rfl rfl ?_
                      exact hR _ _ Iw58 s60 (by omega) (by omega) 
                    · have s63 := sf_mt hs0 tw58 rfl
                      have r2 := q59_0
                      rw [sf_ma s63 (p := 38) rfl] at r2
                      refine sf_call1 rfl rfl rfl ?_
                      refine sf_sp (L := [(0, .inl (.int v57))]) rfl rfl ?_
                      refine sf_iload rfl ?_
                      refine sf_f1_eq (fun h64 => absurd h64 (by omega)) (fun h64 => ?_)
                      refine sf_vreturn rfl rfl ?_
                      refine sf_aload rfl ?_
                      refine sf_getr Iw58 rfl rfl ?_
                      refine sf_iload rfl ?_
                      refine sf_call2 rfl rfl rfl ?_
                      refine sf_rv Iw58 rfl ?_
                      refine sc_D_dutyOfAll Iw58 (by omega) (by omega) (fun v65 => ?_)
                      refine sf_lstore (L' := [(0, .inl (.ref 0)), (1, .inl (.int a_l1)), (2, .inl (.int a_l2)), (3, .inl (.int a_l3)), (4, .inl (.int a_l4))]) rfl ?_
                      refine sf_aload rfl ?_
                      refine sf_getr Iw58 rfl rfl ?_
                      refine sf_iload rfl ?_
                      refine sf_iload rfl ?_
                      refine sf_call2 rfl rfl rfl ?_
                      refine sf_sp (L := [(0, .inl (.int a_l1)), (1, .inl (.int a_l2))]) rfl rfl ?_
                      refine sf_iload rfl ?_
                      refine sf_iconst sf_c4 (fun z67 ez67 => ?_)
                      refine sf_imulr (n := 4) (by omega) (by omega) (fun v68 ev68 => ?_)
                      refine sf_iload rfl ?_
                      refine sf_iadd (by omega) (fun v69 ev69 => ?_)
                      refine sf_ireturn rfl rfl ?_
                      refine sf_iload rfl ?_
                      refine sf_iload rfl ?_
                      refine sf_call4 rfl rfl rfl ?_
                      refine sf_rv Iw58 rfl ?_
                      refine sf_sp (L := [(0, .inl (.ref 35)), (1, .inl (.int v69)), (2, .inl (.int a_l3)), (3, .inl (.int a_l4))]) rfl rfl ?_
                      refine sf_iload rfl ?_
                      refine sf_sw1 sf_c0 (fun h70 => ?_) (fun h70 => absurd h70 (by omega))
                      refine sf_aload rfl ?_
                      refine sf_getr Iw58 rfl rfl ?_
                      refine sf_iload rfl ?_
                      refine sf_iload rfl ?_
                      refine sf_iast Iw58 s63 rfl (by omega) (sf_bd _) rfl rfl (fun w71 Iw71 sw71 kw71 uw71 => ?_)
                      have c72 := sf_ma kw71 (p := 55) rfl
                      clear kw71 uw71
                      refine sf_vreturn rfl rfl ?_
                      refine sf_aload rfl ?_
                      refine sf_getr Iw71 rfl rfl ?_
                      refine sf_iload rfl ?_
                      refine sf_call2 rfl rfl rfl ?_
                      refine sf_rv Iw71 rfl ?_
                      refine sc_A_assessAnew Iw71 (by omega) (by omega) (by rw [sf_ma sw71 (p := 38) rfl]; rw [c72]; exact r2) (fun w73 Iw73 tw73 => ?_)
                      have s75 := sf_mt sw71 tw73 rfl
                      have c76 := sf_ma tw73 (p := 55) rfl
                      refine sf_aload rfl ?_
                      refine sf_getr Iw73 rfl rfl ?_
                      refine sf_iload rfl ?_
                      refine sf_call2 rfl rfl rfl ?_
                      refine sf_rv Iw73 rfl ?_
                      refine sc_A_book Iw73 (by omega) (by omega) (fun w77 Iw77 tw77 => ?_)
                      have s79 := sf_mt s75 tw77 rfl
                      have c80 := sf_ma tw77 (p := 55) rfl
                      refine sf_aload rfl ?_
                      refine sf_iload rfl ?_
                      refine sf_call2 rfl rfl rfl ?_
                      refine sf_rv Iw77 rfl ?_
                      refine sc_B_changeLots Iw77 (by omega) (by omega) (fun w81 Iw81 tw81 => ?_)
                      have s83 := sf_mt s79 tw81 rfl
                      have c84 := sf_ma tw81 (p := 55) rfl
                      refine sf_aload rfl ?_
                      refine sf_getr Iw81 rfl rfl ?_
                      refine sf_iload rfl ?_
                      refine sf_call2 rfl rfl rfl ?_
                      refine sf_rv Iw81 rfl ?_
                      refine sc_D_dutyOfAll Iw81 (by omega) (by omega) (fun v85 => ?_)
                      refine sf_lload rfl ?_
                      refine sf_l2 (fun v87 => ?_)
                      refine sf_lreturn rfl rfl ?_
                      refine sf_last Iw81 s83 rfl (by omega) rfl rfl (fun w88 Iw88 sw88 kw88 uw88 => ?_)
                      have c89 := sf_ma kw88 (p := 55) rfl
                      clear kw88 uw88
                      refine sf_iconst sf_c0 (fun z90 ez90 => ?_)
                      refine sf_ireturn rfl rfl ?_
                      exact hR _ _ Iw88 sw88 (by omega) (by omega) 
                  · refine sf_iconst sf_c0 (fun z91 ez91 => ?_)
                    refine sf_call1 rfl rfl rfl ?_
                    refine sf_sp (L := [(0, .inl (.int z91))]) rfl rfl ?_
                    refine sf_iload rfl ?_
                    refine sf_f1_eq (fun h92 => ?_) (fun h92 => absurd h92 (by omega))
                    refine sf_throw rfl rfl ?_
                    refine sf_xout rfl rfl ?_
                    refine sf_xhm rfl ?_
                    refine sf_xhh (L' := [(0, .inl (.ref 0)), (1, .inl (.int a_l1)), (2, .inl (.int a_l2)), (3, .inl (.int a_l3)), (4, .inl (.int a_l4)), (5, .inl (.ref 130))]) rfl rfl ?_
                    refine sf_iconst sf_c2 (fun z93 ez93 => ?_)
                    refine sf_ireturn rfl rfl ?_
                    exact hR _ _ hI0 hs0 (by omega) (by omega) 
          · refine sf_sw1 sf_c1 (fun h94 => ?_) (fun h94 => ?_)
            · refine sf_iload rfl ?_
              refine sf_iconst sf_c0 (fun z95 ez95 => ?_)
              refine sf_iconst sf_cl1000000 (fun z96 ez96 => ?_)
              refine sf_call3 rfl rfl rfl ?_
              refine sf_sp (L := [(0, .inl (.int a_l4)), (1, .inl (.int z95)), (2, .inl (.int z96))]) rfl rfl ?_
              refine sf_iload rfl ?_
              refine sf_iload rfl ?_
              refine sf_f2_gt (fun h97 => ?_) (fun h97 => ?_)
              · refine sf_iconst sf_c0 (fun z98 ez98 => ?_)
                refine sf_zreturn (by omega) rfl rfl ?_
                refine sf_zreturn (by omega) rfl rfl ?_
                refine sf_call1 rfl rfl rfl ?_
                refine sf_sp (L := [(0, .inl (.int z98))]) rfl rfl ?_
                refine sf_iload rfl ?_
                refine sf_f1_eq (fun h99 => ?_) (fun h99 => absurd h99 (by omega))
                refine sf_throw rfl rfl ?_
                refine sf_xout rfl rfl ?_
                refine sf_xhh (L' := [(0, .inl (.ref 0)), (1, .inl (.int a_l1)), (2, .inl (.int a_l2)), (3, .inl (.int a_l3)), (4, .inl (.int a_l4)), (5, .inl (.ref 130))]) rfl rfl ?_
                refine sf_iconst sf_c1 (fun z100 ez100 => ?_)
                refine sf_ireturn rfl rfl ?_
                exact hR _ _ hI0 hs0 (by omega) (by omega) 
              · refine sf_iload rfl ?_
                refine sf_iload rfl ?_
                refine sf_f2_gt (fun h101 => ?_) (fun h101 => ?_)
                · refine sf_iconst sf_c0 (fun z102 ez102 => ?_)
                  refine sf_zreturn (by omega) rfl rfl ?_
                  refine sf_zreturn (by omega) rfl rfl ?_
                  refine sf_call1 rfl rfl rfl ?_
                  refine sf_sp (L := [(0, .inl (.int z102))]) rfl rfl ?_
                  refine sf_iload rfl ?_
                  refine sf_f1_eq (fun h103 => ?_) (fun h103 => absurd h103 (by omega))
                  refine sf_throw rfl rfl ?_
                  refine sf_xout rfl rfl ?_
                  refine sf_xhh (L' := [(0, .inl (.ref 0)), (1, .inl (.int a_l1)), (2, .inl (.int a_l2)), (3, .inl (.int a_l3)), (4, .inl (.int a_l4)), (5, .inl (.ref 130))]) rfl rfl ?_
                  refine sf_iconst sf_c1 (fun z104 ez104 => ?_)
                  refine sf_ireturn rfl rfl ?_
                  exact hR _ _ hI0 hs0 (by omega) (by omega) 
                · refine sf_iconst sf_c1 (fun z105 ez105 => ?_)
                  refine sf_zreturn (by omega) rfl rfl ?_
                  refine sf_zreturn (by omega) rfl rfl ?_
                  refine sf_call1 rfl rfl rfl ?_
                  refine sf_sp (L := [(0, .inl (.int z105))]) rfl rfl ?_
                  refine sf_iload rfl ?_
                  refine sf_f1_eq (fun h106 => absurd h106 (by omega)) (fun h106 => ?_)
                  refine sf_vreturn rfl rfl ?_
                  refine sf_aload rfl ?_
                  refine sf_getr hI0 rfl rfl ?_
                  refine sf_getr hI0 rfl rfl ?_
                  refine sf_iload rfl ?_
                  refine sf_zald hI0 rfl (by omega) (fun v107 lv107 uv107 ev107 => ?_)
                  refine sf_call1 rfl rfl rfl ?_
                  refine sf_sp (L := [(0, .inl (.int v107))]) rfl rfl ?_
                  refine sf_iload rfl ?_
                  refine sf_f1_eq (fun h108 => ?_) (fun h108 => ?_)
                  · refine sf_throw rfl rfl ?_
                    refine sf_xout rfl rfl ?_
                    refine sf_xhm rfl ?_
                    refine sf_xhh (L' := [(0, .inl (.ref 0)), (1, .inl (.int a_l1)), (2, .inl (.int a_l2)), (3, .inl (.int a_l3)), (4, .inl (.int a_l4)), (5, .inl (.ref 130))]) rfl rfl ?_
                    refine sf_iconst sf_c2 (fun z109 ez109 => ?_)
                    refine sf_ireturn rfl rfl ?_
                    exact hR _ _ hI0 hs0 (by omega) (by omega) 
                  · refine sf_vreturn rfl rfl ?_
                    refine sf_aload rfl ?_
                    refine sf_iload rfl ?_
                    refine sf_call2 rfl rfl rfl ?_
                    refine sf_rv hI0 rfl ?_
                    refine sc_B_hasGoneUnits hI0 (by omega) (by omega) (fun v110 lv110 uv110 => ?_)
                    refine sf_f1_eq (fun h112 => ?_) (fun h112 => ?_)
                    · refine sf_iconst sf_c1 (fun z113 ez113 => ?_)
                      refine sf_call1 rfl rfl rfl ?_
                      refine sf_sp (L := [(0, .inl (.int z113))]) rfl rfl ?_
                      refine sf_iload rfl ?_
                      refine sf_f1_eq (fun h114 => absurd h114 (by omega)) (fun h114 => ?_)
                      refine sf_vreturn rfl rfl ?_
                      refine sf_aload rfl ?_
                      refine sf_getr hI0 rfl rfl ?_
                      refine sf_iload rfl ?_
                      refine sf_call2 rfl rfl rfl ?_
                      refine sf_rv hI0 rfl ?_
                      refine sc_A_canAssess hI0 (by omega) (by omega) (fun v115 w116 Iw116 tw116 ev115 => ?_) (fun v115 w116 Iw116 tw116 ev115 q117_0 => ?_)
                      · have s118 := sf_mt hs0 tw116 rfl
                        refine sf_call1 rfl rfl rfl ?_
                        refine sf_sp (L := [(0, .inl (.int v115))]) rfl rfl ?_
                        refine sf_iload rfl ?_
                        refine sf_f1_eq (fun h119 => ?_) (fun h119 => absurd h119 (by omega))
                        refine sf_throw rfl rfl ?_
                        refine sf_xout rfl rfl ?_
                        refine sf_xhm rfl ?_
                        refine sf_xhm rfl ?_
                        refine sf_xhh (L' := [(0, .inl (.ref 0)), (1, .inl (.int a_l1)), (2, .inl (.int a_l2)), (3, .inl (.int a_l3)), (4, .inl (.int a_l4)), (5, .inl (.ref 130))]) rfl rfl ?_
                        refine sf_iconst sf_c3 (fun z120 ez120 => ?_)
                        refine sf_ireturn rfl rfl ?_
                        exact hR _ _ Iw116 s118 (by omega) (by omega) 
                      · have s121 := sf_mt hs0 tw116 rfl
                        have r2 := q117_0
                        rw [sf_ma s121 (p := 38) rfl] at r2
                        refine sf_call1 rfl rfl rfl ?_
                        refine sf_sp (L := [(0, .inl (.int v115))]) rfl rfl ?_
                        refine sf_iload rfl ?_
                        refine sf_f1_eq (fun h122 => absurd h122 (by omega)) (fun h122 => ?_)
                        refine sf_vreturn rfl rfl ?_
                        refine sf_aload rfl ?_
                        refine sf_getr Iw116 rfl rfl ?_
                        refine sf_iload rfl ?_
                        refine sf_call2 rfl rfl rfl ?_
                        refine sf_rv Iw116 rfl ?_
                        refine sc_D_dutyOfAll Iw116 (by omega) (by omega) (fun v123 => ?_)
                        refine sf_lstore (L' := [(0, .inl (.ref 0)), (1, .inl (.int a_l1)), (2, .inl (.int a_l2)), (3, .inl (.int a_l3)), (4, .inl (.int a_l4))]) rfl ?_
                        refine sf_aload rfl ?_
                        refine sf_getr Iw116 rfl rfl ?_
                        refine sf_iload rfl ?_
                        refine sf_iload rfl ?_
                        refine sf_call2 rfl rfl rfl ?_
                        refine sf_sp (L := [(0, .inl (.int a_l1)), (1, .inl (.int a_l2))]) rfl rfl ?_
                        refine sf_iload rfl ?_
                        refine sf_iconst sf_c4 (fun z125 ez125 => ?_)
                        refine sf_imulr (n := 4) (by omega) (by omega) (fun v126 ev126 => ?_)
                        refine sf_iload rfl ?_
                        refine sf_iadd (by omega) (fun v127 ev127 => ?_)
                        refine sf_ireturn rfl rfl ?_
                        refine sf_iload rfl ?_
                        refine sf_iload rfl ?_
                        refine sf_call4 rfl rfl rfl ?_
                        refine sf_rv Iw116 rfl ?_
                        refine sf_sp (L := [(0, .inl (.ref 35)), (1, .inl (.int v127)), (2, .inl (.int a_l3)), (3, .inl (.int a_l4))]) rfl rfl ?_
                        refine sf_iload rfl ?_
                        refine sf_sw1 sf_c0 (fun h128 => absurd h128 (by omega)) (fun h128 => ?_)
                        refine sf_sw1 sf_c1 (fun h129 => ?_) (fun h129 => absurd h129 (by omega))
                        refine sf_aload rfl ?_
                        refine sf_getr Iw116 rfl rfl ?_
                        refine sf_iload rfl ?_
                        refine sf_iload rfl ?_
                        refine sf_iast Iw116 s121 rfl (by omega) (sf_bd _) rfl rfl (fun w130 Iw130 sw130 kw130 uw130 => ?_)
                        have c131 := sf_ma kw130 (p := 55) rfl
                        clear kw130 uw130
                        refine sf_vreturn rfl rfl ?_
                        refine sf_aload rfl ?_
                        refine sf_getr Iw130 rfl rfl ?_
                        refine sf_iload rfl ?_
                        refine sf_call2 rfl rfl rfl ?_
                        refine sf_rv Iw130 rfl ?_
                        refine sc_A_assessAnew Iw130 (by omega) (by omega) (by rw [sf_ma sw130 (p := 38) rfl]; rw [c131]; exact r2) (fun w132 Iw132 tw132 => ?_)
                        have s134 := sf_mt sw130 tw132 rfl
                        have c135 := sf_ma tw132 (p := 55) rfl
                        refine sf_aload rfl ?_
                        refine sf_getr Iw132 rfl rfl ?_
                        refine sf_iload rfl ?_
                        refine sf_call2 rfl rfl rfl ?_
                        refine sf_rv Iw132 rfl ?_
                        refine sc_A_book Iw132 (by omega) (by omega) (fun w136 Iw136 tw136 => ?_)
                        have s138 := sf_mt s134 tw136 rfl
                        have c139 := sf_ma tw136 (p := 55) rfl
                        refine sf_aload rfl ?_
                        refine sf_iload rfl ?_
                        refine sf_call2 rfl rfl rfl ?_
                        refine sf_rv Iw136 rfl ?_
                        refine sc_B_changeLots Iw136 (by omega) (by omega) (fun w140 Iw140 tw140 => ?_)
                        have s142 := sf_mt s138 tw140 rfl
                        have c143 := sf_ma tw140 (p := 55) rfl
                        refine sf_aload rfl ?_
                        refine sf_getr Iw140 rfl rfl ?_
                        refine sf_iload rfl ?_
                        refine sf_call2 rfl rfl rfl ?_
                        refine sf_rv Iw140 rfl ?_
                        refine sc_D_dutyOfAll Iw140 (by omega) (by omega) (fun v144 => ?_)
                        refine sf_lload rfl ?_
                        refine sf_l2 (fun v146 => ?_)
                        refine sf_lreturn rfl rfl ?_
                        refine sf_last Iw140 s142 rfl (by omega) rfl rfl (fun w147 Iw147 sw147 kw147 uw147 => ?_)
                        have c148 := sf_ma kw147 (p := 55) rfl
                        clear kw147 uw147
                        refine sf_iconst sf_c0 (fun z149 ez149 => ?_)
                        refine sf_ireturn rfl rfl ?_
                        exact hR _ _ Iw147 sw147 (by omega) (by omega) 
                    · refine sf_iconst sf_c0 (fun z150 ez150 => ?_)
                      refine sf_call1 rfl rfl rfl ?_
                      refine sf_sp (L := [(0, .inl (.int z150))]) rfl rfl ?_
                      refine sf_iload rfl ?_
                      refine sf_f1_eq (fun h151 => ?_) (fun h151 => absurd h151 (by omega))
                      refine sf_throw rfl rfl ?_
                      refine sf_xout rfl rfl ?_
                      refine sf_xhm rfl ?_
                      refine sf_xhh (L' := [(0, .inl (.ref 0)), (1, .inl (.int a_l1)), (2, .inl (.int a_l2)), (3, .inl (.int a_l3)), (4, .inl (.int a_l4)), (5, .inl (.ref 130))]) rfl rfl ?_
                      refine sf_iconst sf_c2 (fun z152 ez152 => ?_)
                      refine sf_ireturn rfl rfl ?_
                      exact hR _ _ hI0 hs0 (by omega) (by omega) 
            · refine sf_sw1 sf_c2 (fun h153 => ?_) (fun h153 => ?_)
              · refine sf_iload rfl ?_
                refine sf_iconst sf_c0 (fun z154 ez154 => ?_)
                refine sf_iconst sf_cl100000000 (fun z155 ez155 => ?_)
                refine sf_call3 rfl rfl rfl ?_
                refine sf_sp (L := [(0, .inl (.int a_l4)), (1, .inl (.int z154)), (2, .inl (.int z155))]) rfl rfl ?_
                refine sf_iload rfl ?_
                refine sf_iload rfl ?_
                refine sf_f2_gt (fun h156 => ?_) (fun h156 => ?_)
                · refine sf_iconst sf_c0 (fun z157 ez157 => ?_)
                  refine sf_zreturn (by omega) rfl rfl ?_
                  refine sf_zreturn (by omega) rfl rfl ?_
                  refine sf_call1 rfl rfl rfl ?_
                  refine sf_sp (L := [(0, .inl (.int z157))]) rfl rfl ?_
                  refine sf_iload rfl ?_
                  refine sf_f1_eq (fun h158 => ?_) (fun h158 => absurd h158 (by omega))
                  refine sf_throw rfl rfl ?_
                  refine sf_xout rfl rfl ?_
                  refine sf_xhh (L' := [(0, .inl (.ref 0)), (1, .inl (.int a_l1)), (2, .inl (.int a_l2)), (3, .inl (.int a_l3)), (4, .inl (.int a_l4)), (5, .inl (.ref 130))]) rfl rfl ?_
                  refine sf_iconst sf_c1 (fun z159 ez159 => ?_)
                  refine sf_ireturn rfl rfl ?_
                  exact hR _ _ hI0 hs0 (by omega) (by omega) 
                · refine sf_iload rfl ?_
                  refine sf_iload rfl ?_
                  refine sf_f2_gt (fun h160 => ?_) (fun h160 => ?_)
                  · refine sf_iconst sf_c0 (fun z161 ez161 => ?_)
                    refine sf_zreturn (by omega) rfl rfl ?_
                    refine sf_zreturn (by omega) rfl rfl ?_
                    refine sf_call1 rfl rfl rfl ?_
                    refine sf_sp (L := [(0, .inl (.int z161))]) rfl rfl ?_
                    refine sf_iload rfl ?_
                    refine sf_f1_eq (fun h162 => ?_) (fun h162 => absurd h162 (by omega))
                    refine sf_throw rfl rfl ?_
                    refine sf_xout rfl rfl ?_
                    refine sf_xhh (L' := [(0, .inl (.ref 0)), (1, .inl (.int a_l1)), (2, .inl (.int a_l2)), (3, .inl (.int a_l3)), (4, .inl (.int a_l4)), (5, .inl (.ref 130))]) rfl rfl ?_
                    refine sf_iconst sf_c1 (fun z163 ez163 => ?_)
                    refine sf_ireturn rfl rfl ?_
                    exact hR _ _ hI0 hs0 (by omega) (by omega) 
                  · refine sf_iconst sf_c1 (fun z164 ez164 => ?_)
                    refine sf_zreturn (by omega) rfl rfl ?_
                    refine sf_zreturn (by omega) rfl rfl ?_
                    refine sf_call1 rfl rfl rfl ?_
                    refine sf_sp (L := [(0, .inl (.int z164))]) rfl rfl ?_
                    refine sf_iload rfl ?_
                    refine sf_f1_eq (fun h165 => absurd h165 (by omega)) (fun h165 => ?_)
                    refine sf_vreturn rfl rfl ?_
                    refine sf_aload rfl ?_
                    refine sf_getr hI0 rfl rfl ?_
                    refine sf_getr hI0 rfl rfl ?_
                    refine sf_iload rfl ?_
                    refine sf_zald hI0 rfl (by omega) (fun v166 lv166 uv166 ev166 => ?_)
                    refine sf_call1 rfl rfl rfl ?_
                    refine sf_sp (L := [(0, .inl (.int v166))]) rfl rfl ?_
                    refine sf_iload rfl ?_
                    refine sf_f1_eq (fun h167 => ?_) (fun h167 => ?_)
                    · refine sf_throw rfl rfl ?_
                      refine sf_xout rfl rfl ?_
                      refine sf_xhm rfl ?_
                      refine sf_xhh (L' := [(0, .inl (.ref 0)), (1, .inl (.int a_l1)), (2, .inl (.int a_l2)), (3, .inl (.int a_l3)), (4, .inl (.int a_l4)), (5, .inl (.ref 130))]) rfl rfl ?_
                      refine sf_iconst sf_c2 (fun z168 ez168 => ?_)
                      refine sf_ireturn rfl rfl ?_
                      exact hR _ _ hI0 hs0 (by omega) (by omega) 
                    · refine sf_vreturn rfl rfl ?_
                      refine sf_aload rfl ?_
                      refine sf_iload rfl ?_
                      refine sf_call2 rfl rfl rfl ?_
                      refine sf_rv hI0 rfl ?_
                      refine sc_B_hasGoneUnits hI0 (by omega) (by omega) (fun v169 lv169 uv169 => ?_)
                      refine sf_f1_eq (fun h171 => ?_) (fun h171 => ?_)
                      · refine sf_iconst sf_c1 (fun z172 ez172 => ?_)
                        refine sf_call1 rfl rfl rfl ?_
                        refine sf_sp (L := [(0, .inl (.int z172))]) rfl rfl ?_
                        refine sf_iload rfl ?_
                        refine sf_f1_eq (fun h173 => absurd h173 (by omega)) (fun h173 => ?_)
                        refine sf_vreturn rfl rfl ?_
                        refine sf_aload rfl ?_
                        refine sf_getr hI0 rfl rfl ?_
                        refine sf_iload rfl ?_
                        refine sf_call2 rfl rfl rfl ?_
                        refine sf_rv hI0 rfl ?_
                        refine sc_A_canAssess hI0 (by omega) (by omega) (fun v174 w175 Iw175 tw175 ev174 => ?_) (fun v174 w175 Iw175 tw175 ev174 q176_0 => ?_)
                        · have s177 := sf_mt hs0 tw175 rfl
                          refine sf_call1 rfl rfl rfl ?_
                          refine sf_sp (L := [(0, .inl (.int v174))]) rfl rfl ?_
                          refine sf_iload rfl ?_
                          refine sf_f1_eq (fun h178 => ?_) (fun h178 => absurd h178 (by omega))
                          refine sf_throw rfl rfl ?_
                          refine sf_xout rfl rfl ?_
                          refine sf_xhm rfl ?_
                          refine sf_xhm rfl ?_
                          refine sf_xhh (L' := [(0, .inl (.ref 0)), (1, .inl (.int a_l1)), (2, .inl (.int a_l2)), (3, .inl (.int a_l3)), (4, .inl (.int a_l4)), (5, .inl (.ref 130))]) rfl rfl ?_
                          refine sf_iconst sf_c3 (fun z179 ez179 => ?_)
                          refine sf_ireturn rfl rfl ?_
                          exact hR _ _ Iw175 s177 (by omega) (by omega) 
                        · have s180 := sf_mt hs0 tw175 rfl
                          have r2 := q176_0
                          rw [sf_ma s180 (p := 38) rfl] at r2
                          refine sf_call1 rfl rfl rfl ?_
                          refine sf_sp (L := [(0, .inl (.int v174))]) rfl rfl ?_
                          refine sf_iload rfl ?_
                          refine sf_f1_eq (fun h181 => absurd h181 (by omega)) (fun h181 => ?_)
                          refine sf_vreturn rfl rfl ?_
                          refine sf_aload rfl ?_
                          refine sf_getr Iw175 rfl rfl ?_
                          refine sf_iload rfl ?_
                          refine sf_call2 rfl rfl rfl ?_
                          refine sf_rv Iw175 rfl ?_
                          refine sc_D_dutyOfAll Iw175 (by omega) (by omega) (fun v182 => ?_)
                          refine sf_lstore (L' := [(0, .inl (.ref 0)), (1, .inl (.int a_l1)), (2, .inl (.int a_l2)), (3, .inl (.int a_l3)), (4, .inl (.int a_l4))]) rfl ?_
                          refine sf_aload rfl ?_
                          refine sf_getr Iw175 rfl rfl ?_
                          refine sf_iload rfl ?_
                          refine sf_iload rfl ?_
                          refine sf_call2 rfl rfl rfl ?_
                          refine sf_sp (L := [(0, .inl (.int a_l1)), (1, .inl (.int a_l2))]) rfl rfl ?_
                          refine sf_iload rfl ?_
                          refine sf_iconst sf_c4 (fun z184 ez184 => ?_)
                          refine sf_imulr (n := 4) (by omega) (by omega) (fun v185 ev185 => ?_)
                          refine sf_iload rfl ?_
                          refine sf_iadd (by omega) (fun v186 ev186 => ?_)
                          refine sf_ireturn rfl rfl ?_
                          refine sf_iload rfl ?_
                          refine sf_iload rfl ?_
                          refine sf_call4 rfl rfl rfl ?_
                          refine sf_rv Iw175 rfl ?_
                          refine sf_sp (L := [(0, .inl (.ref 35)), (1, .inl (.int v186)), (2, .inl (.int a_l3)), (3, .inl (.int a_l4))]) rfl rfl ?_
                          refine sf_iload rfl ?_
                          refine sf_sw1 sf_c0 (fun h187 => absurd h187 (by omega)) (fun h187 => ?_)
                          refine sf_sw1 sf_c1 (fun h188 => absurd h188 (by omega)) (fun h188 => ?_)
                          refine sf_sw0 ?_
                          refine sf_aload rfl ?_
                          refine sf_getr Iw175 rfl rfl ?_
                          refine sf_iload rfl ?_
                          refine sf_iload rfl ?_
                          refine sf_iast Iw175 s180 rfl (by omega) (sf_bd _) rfl rfl (fun w189 Iw189 sw189 kw189 uw189 => ?_)
                          have c190 := sf_ma kw189 (p := 55) rfl
                          clear kw189 uw189
                          refine sf_vreturn rfl rfl ?_
                          refine sf_aload rfl ?_
                          refine sf_getr Iw189 rfl rfl ?_
                          refine sf_iload rfl ?_
                          refine sf_call2 rfl rfl rfl ?_
                          refine sf_rv Iw189 rfl ?_
                          refine sc_A_assessAnew Iw189 (by omega) (by omega) (by rw [sf_ma sw189 (p := 38) rfl]; rw [c190]; exact r2) (fun w191 Iw191 tw191 => ?_)
                          have s193 := sf_mt sw189 tw191 rfl
                          have c194 := sf_ma tw191 (p := 55) rfl
                          refine sf_aload rfl ?_
                          refine sf_getr Iw191 rfl rfl ?_
                          refine sf_iload rfl ?_
                          refine sf_call2 rfl rfl rfl ?_
                          refine sf_rv Iw191 rfl ?_
                          refine sc_A_book Iw191 (by omega) (by omega) (fun w195 Iw195 tw195 => ?_)
                          have s197 := sf_mt s193 tw195 rfl
                          have c198 := sf_ma tw195 (p := 55) rfl
                          refine sf_aload rfl ?_
                          refine sf_iload rfl ?_
                          refine sf_call2 rfl rfl rfl ?_
                          refine sf_rv Iw195 rfl ?_
                          refine sc_B_changeLots Iw195 (by omega) (by omega) (fun w199 Iw199 tw199 => ?_)
                          have s201 := sf_mt s197 tw199 rfl
                          have c202 := sf_ma tw199 (p := 55) rfl
                          refine sf_aload rfl ?_
                          refine sf_getr Iw199 rfl rfl ?_
                          refine sf_iload rfl ?_
                          refine sf_call2 rfl rfl rfl ?_
                          refine sf_rv Iw199 rfl ?_
                          refine sc_D_dutyOfAll Iw199 (by omega) (by omega) (fun v203 => ?_)
                          refine sf_lload rfl ?_
                          refine sf_l2 (fun v205 => ?_)
                          refine sf_lreturn rfl rfl ?_
                          refine sf_last Iw199 s201 rfl (by omega) rfl rfl (fun w206 Iw206 sw206 kw206 uw206 => ?_)
                          have c207 := sf_ma kw206 (p := 55) rfl
                          clear kw206 uw206
                          refine sf_iconst sf_c0 (fun z208 ez208 => ?_)
                          refine sf_ireturn rfl rfl ?_
                          exact hR _ _ Iw206 sw206 (by omega) (by omega) 
                      · refine sf_iconst sf_c0 (fun z209 ez209 => ?_)
                        refine sf_call1 rfl rfl rfl ?_
                        refine sf_sp (L := [(0, .inl (.int z209))]) rfl rfl ?_
                        refine sf_iload rfl ?_
                        refine sf_f1_eq (fun h210 => ?_) (fun h210 => absurd h210 (by omega))
                        refine sf_throw rfl rfl ?_
                        refine sf_xout rfl rfl ?_
                        refine sf_xhm rfl ?_
                        refine sf_xhh (L' := [(0, .inl (.ref 0)), (1, .inl (.int a_l1)), (2, .inl (.int a_l2)), (3, .inl (.int a_l3)), (4, .inl (.int a_l4)), (5, .inl (.ref 130))]) rfl rfl ?_
                        refine sf_iconst sf_c2 (fun z211 ez211 => ?_)
                        refine sf_ireturn rfl rfl ?_
                        exact hR _ _ hI0 hs0 (by omega) (by omega) 
              · refine sf_sw0 ?_
                refine sf_iconst sf_c0 (fun z212 ez212 => ?_)
                refine sf_zreturn (by omega) rfl rfl ?_
                refine sf_call1 rfl rfl rfl ?_
                refine sf_sp (L := [(0, .inl (.int z212))]) rfl rfl ?_
                refine sf_iload rfl ?_
                refine sf_f1_eq (fun h213 => ?_) (fun h213 => absurd h213 (by omega))
                refine sf_throw rfl rfl ?_
                refine sf_xout rfl rfl ?_
                refine sf_xhh (L' := [(0, .inl (.ref 0)), (1, .inl (.int a_l1)), (2, .inl (.int a_l2)), (3, .inl (.int a_l3)), (4, .inl (.int a_l4)), (5, .inl (.ref 130))]) rfl rfl ?_
                refine sf_iconst sf_c1 (fun z214 ez214 => ?_)
                refine sf_ireturn rfl rfl ?_
                exact hR _ _ hI0 hs0 (by omega) (by omega) 
