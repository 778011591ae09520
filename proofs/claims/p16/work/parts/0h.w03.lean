def sm_W_declare_0_130 : List Nat := [35, 36, 37, 130, 4500]
set_option maxRecDepth 100000 in
set_option maxHeartbeats 4000000 in
theorem sc_W_declare_0_130 {w0 : wq_W} (hI0 : sf_I w0) {rt : Option wq_V → wq_W → Prop} {xt : Nat → wq_W → Prop} {a_l1 : Int32} {a_l2 : Int32}  (hR : ∀ (r : Int32) (w : wq_W), sf_I w → sf_m sm_W_declare_0_130 w0 w → 0 ≤ r.toInt → r.toInt ≤ 2 → (((r.toInt = 0 ∧ (0 ≤ a_l1.toInt ∧ a_l1.toInt ≤ 9999 ∧ 0 ≤ a_l2.toInt ∧ a_l2.toInt ≤ 1439) ∧ ((sf_f w0 35 0).toInt < 12) ∧ (sf_f w 35 0).toInt = (sf_f w0 35 0).toInt + 1 ∧ (sf_l w 130 0).toInt = (sf_f w0 35 0).toInt) ∨ (r.toInt = 1 ∧ ¬ (0 ≤ a_l1.toInt ∧ a_l1.toInt ≤ 9999 ∧ 0 ≤ a_l2.toInt ∧ a_l2.toInt ≤ 1439) ∧ (sf_f w 35 0).toInt = (sf_f w0 35 0).toInt) ∨ (r.toInt = 2 ∧ (0 ≤ a_l1.toInt ∧ a_l1.toInt ≤ 9999 ∧ 0 ≤ a_l2.toInt ∧ a_l2.toInt ≤ 1439) ∧ ¬ ((sf_f w0 35 0).toInt < 12) ∧ (sf_f w 35 0).toInt = (sf_f w0 35 0).toInt))) → (sf_U (sf_a w0 36) (sf_a w 36) (sf_f w0 35 0).toInt r.toInt a_l1) → (sf_U (sf_a w0 37) (sf_a w 37) (sf_f w0 35 0).toInt r.toInt a_l2) → rt (some (.inl (.int r))) w) : ks_W_declare [.inl (.ref 0), .inl (.int a_l1), .inl (.int a_l2), .inl (.ref 130)] w0 rt xt := by
  have hs0 : sf_m sm_W_declare_0_130 w0 w0 := sf_m0
  refine sf_sp (L := [(0, .inl (.ref 0)), (1, .inl (.int a_l1)), (2, .inl (.int a_l2)), (3, .inl (.ref 130))]) rfl rfl ?_
  refine sf_aload rfl ?_
  refine sf_iconst sf_c0 (fun z1 ez1 => ?_)
  refine sf_aload rfl ?_
  refine sf_iload rfl ?_
  refine sf_iload rfl ?_
  refine sf_call3 rfl rfl rfl ?_
  refine sf_rv hI0 rfl ?_
  refine sf_sp (L := [(0, .inl (.ref 0)), (1, .inl (.int a_l1)), (2, .inl (.int a_l2))]) rfl rfl ?_
  refine sf_iload rfl ?_
  refine sf_call1 rfl rfl rfl ?_
  refine sf_sp (L := [(0, .inl (.int a_l1))]) rfl rfl ?_
  refine sf_iload rfl ?_
  refine sf_iconst sf_c10000 (fun z2 ez2 => ?_)
  refine sf_call2 rfl rfl rfl ?_
  refine sf_sp (L := [(0, .inl (.int a_l1)), (1, .inl (.int z2))]) rfl rfl ?_
  refine sf_iconst sf_c0 (fun z3 ez3 => ?_)
  refine sf_iload rfl ?_
  refine sf_f2_gt (fun h4 => ?_) (fun h4 => ?_)
  · refine sf_iconst sf_c0 (fun z5 ez5 => ?_)
    refine sf_zreturn (by omega) rfl rfl ?_
    refine sf_zreturn (by omega) rfl rfl ?_
    refine sf_call1 rfl rfl rfl ?_
    refine sf_sp (L := [(0, .inl (.int z5))]) rfl rfl ?_
    refine sf_iload rfl ?_
    refine sf_f1_eq (fun h6 => ?_) (fun h6 => absurd h6 (by omega))
    refine sf_throw rfl rfl ?_
    refine sf_xout rfl rfl ?_
    refine sf_xhh (L' := [(0, .inl (.ref 0)), (1, .inl (.int a_l1)), (2, .inl (.int a_l2)), (3, .inl (.ref 130))]) rfl rfl ?_
    refine sf_iconst sf_c1 (fun z7 ez7 => ?_)
    refine sf_ireturn rfl rfl ?_
    exact hR _ _ hI0 hs0 (by omega) (by omega) (by first | (refine Or.inl ⟨by omega, ?_⟩; omega) | (refine Or.inr (Or.inl ⟨by omega, ?_⟩); omega) | (refine Or.inr (Or.inr ⟨by omega, ?_⟩); omega)) (by first | exact Or.inl ⟨by omega, rfl⟩ | exact Or.inr ⟨by omega, u36⟩) (by first | exact Or.inl ⟨by omega, rfl⟩ | exact Or.inr ⟨by omega, u37⟩)
  · refine sf_iload rfl ?_
    refine sf_iload rfl ?_
    refine sf_f2_ge (fun h8 => ?_) (fun h8 => ?_)
    · refine sf_iconst sf_c0 (fun z9 ez9 => ?_)
      refine sf_zreturn (by omega) rfl rfl ?_
      refine sf_zreturn (by omega) rfl rfl ?_
      refine sf_call1 rfl rfl rfl ?_
      refine sf_sp (L := [(0, .inl (.int z9))]) rfl rfl ?_
      refine sf_iload rfl ?_
      refine sf_f1_eq (fun h10 => ?_) (fun h10 => absurd h10 (by omega))
      refine sf_throw rfl rfl ?_
      refine sf_xout rfl rfl ?_
      refine sf_xhh (L' := [(0, .inl (.ref 0)), (1, .inl (.int a_l1)), (2, .inl (.int a_l2)), (3, .inl (.ref 130))]) rfl rfl ?_
      refine sf_iconst sf_c1 (fun z11 ez11 => ?_)
      refine sf_ireturn rfl rfl ?_
      exact hR _ _ hI0 hs0 (by omega) (by omega) (by first | (refine Or.inl ⟨by omega, ?_⟩; omega) | (refine Or.inr (Or.inl ⟨by omega, ?_⟩); omega) | (refine Or.inr (Or.inr ⟨by omega, ?_⟩); omega)) (by first | exact Or.inl ⟨by omega, rfl⟩ | exact Or.inr ⟨by omega, u36⟩) (by first | exact Or.inl ⟨by omega, rfl⟩ | exact Or.inr ⟨by omega, u37⟩)
    · refine sf_iconst sf_c1 (fun z12 ez12 => ?_)
      refine sf_zreturn (by omega) rfl rfl ?_
      refine sf_zreturn (by omega) rfl rfl ?_
      refine sf_call1 rfl rfl rfl ?_
      refine sf_sp (L := [(0, .inl (.int z12))]) rfl rfl ?_
      refine sf_iload rfl ?_
      refine sf_f1_eq (fun h13 => absurd h13 (by omega)) (fun h13 => ?_)
      refine sf_vreturn rfl rfl ?_
      refine sf_iload rfl ?_
      refine sf_iconst sf_c1440 (fun z14 ez14 => ?_)
      refine sf_call2 rfl rfl rfl ?_
      refine sf_sp (L := [(0, .inl (.int a_l2)), (1, .inl (.int z14))]) rfl rfl ?_
      refine sf_iconst sf_c0 (fun z15 ez15 => ?_)
      refine sf_iload rfl ?_
      refine sf_f2_gt (fun h16 => ?_) (fun h16 => ?_)
      · refine sf_iconst sf_c0 (fun z17 ez17 => ?_)
        refine sf_zreturn (by omega) rfl rfl ?_
        refine sf_call1 rfl rfl rfl ?_
        refine sf_sp (L := [(0, .inl (.int z17))]) rfl rfl ?_
        refine sf_iload rfl ?_
        refine sf_f1_eq (fun h18 => ?_) (fun h18 => absurd h18 (by omega))
        refine sf_throw rfl rfl ?_
        refine sf_xout rfl rfl ?_
        refine sf_xhh (L' := [(0, .inl (.ref 0)), (1, .inl (.int a_l1)), (2, .inl (.int a_l2)), (3, .inl (.ref 130))]) rfl rfl ?_
        refine sf_iconst sf_c1 (fun z19 ez19 => ?_)
        refine sf_ireturn rfl rfl ?_
        exact hR _ _ hI0 hs0 (by omega) (by omega) (by first | (refine Or.inl ⟨by omega, ?_⟩; omega) | (refine Or.inr (Or.inl ⟨by omega, ?_⟩); omega) | (refine Or.inr (Or.inr ⟨by omega, ?_⟩); omega)) (by first | exact Or.inl ⟨by omega, rfl⟩ | exact Or.inr ⟨by omega, u36⟩) (by first | exact Or.inl ⟨by omega, rfl⟩ | exact Or.inr ⟨by omega, u37⟩)
      · refine sf_iload rfl ?_
        refine sf_iload rfl ?_
        refine sf_f2_ge (fun h20 => ?_) (fun h20 => ?_)
        · refine sf_iconst sf_c0 (fun z21 ez21 => ?_)
          refine sf_zreturn (by omega) rfl rfl ?_
          refine sf_call1 rfl rfl rfl ?_
          refine sf_sp (L := [(0, .inl (.int z21))]) rfl rfl ?_
          refine sf_iload rfl ?_
          refine sf_f1_eq (fun h22 => ?_) (fun h22 => absurd h22 (by omega))
          refine sf_throw rfl rfl ?_
          refine sf_xout rfl rfl ?_
          refine sf_xhh (L' := [(0, .inl (.ref 0)), (1, .inl (.int a_l1)), (2, .inl (.int a_l2)), (3, .inl (.ref 130))]) rfl rfl ?_
          refine sf_iconst sf_c1 (fun z23 ez23 => ?_)
          refine sf_ireturn rfl rfl ?_
          exact hR _ _ hI0 hs0 (by omega) (by omega) (by first | (refine Or.inl ⟨by omega, ?_⟩; omega) | (refine Or.inr (Or.inl ⟨by omega, ?_⟩); omega) | (refine Or.inr (Or.inr ⟨by omega, ?_⟩); omega)) (by first | exact Or.inl ⟨by omega, rfl⟩ | exact Or.inr ⟨by omega, u36⟩) (by first | exact Or.inl ⟨by omega, rfl⟩ | exact Or.inr ⟨by omega, u37⟩)
        · refine sf_iconst sf_c1 (fun z24 ez24 => ?_)
          refine sf_zreturn (by omega) rfl rfl ?_
          refine sf_call1 rfl rfl rfl ?_
          refine sf_sp (L := [(0, .inl (.int z24))]) rfl rfl ?_
          refine sf_iload rfl ?_
          refine sf_f1_eq (fun h25 => absurd h25 (by omega)) (fun h25 => ?_)
          refine sf_vreturn rfl rfl ?_
          refine sf_aload rfl ?_
          refine sf_getr hI0 rfl rfl ?_
          refine sf_geti hI0 rfl rfl (fun v26 lv26 uv26 ev26 => ?_)
          refine sf_iconst sf_c12 (fun z27 ez27 => ?_)
          refine sf_f2_ge (fun h28 => ?_) (fun h28 => ?_)
          · refine sf_iconst sf_c0 (fun z29 ez29 => ?_)
            refine sf_call1 rfl rfl rfl ?_
            refine sf_sp (L := [(0, .inl (.int z29))]) rfl rfl ?_
            refine sf_iload rfl ?_
            refine sf_f1_eq (fun h30 => ?_) (fun h30 => absurd h30 (by omega))
            refine sf_throw rfl rfl ?_
            refine sf_xout rfl rfl ?_
            refine sf_xhm rfl ?_
            refine sf_xhh (L' := [(0, .inl (.ref 0)), (1, .inl (.int a_l1)), (2, .inl (.int a_l2)), (3, .inl (.ref 130))]) rfl rfl ?_
            refine sf_iconst sf_c2 (fun z31 ez31 => ?_)
            refine sf_ireturn rfl rfl ?_
            exact hR _ _ hI0 hs0 (by omega) (by omega) (by first | (refine Or.inl ⟨by omega, ?_⟩; omega) | (refine Or.inr (Or.inl ⟨by omega, ?_⟩); omega) | (refine Or.inr (Or.inr ⟨by omega, ?_⟩); omega)) (by first | exact Or.inl ⟨by omega, rfl⟩ | exact Or.inr ⟨by omega, u36⟩) (by first | exact Or.inl ⟨by omega, rfl⟩ | exact Or.inr ⟨by omega, u37⟩)
          · refine sf_iconst sf_c1 (fun z32 ez32 => ?_)
            refine sf_call1 rfl rfl rfl ?_
            refine sf_sp (L := [(0, .inl (.int z32))]) rfl rfl ?_
            refine sf_iload rfl ?_
            refine sf_f1_eq (fun h33 => absurd h33 (by omega)) (fun h33 => ?_)
            refine sf_vreturn rfl rfl ?_
            refine sf_aload rfl ?_
            refine sf_getr hI0 rfl rfl ?_
            refine sf_iload rfl ?_
            refine sf_iload rfl ?_
            refine sf_call3 rfl rfl rfl ?_
            refine sf_rv hI0 rfl ?_
            refine sf_sp (L := [(0, .inl (.ref 35)), (1, .inl (.int a_l1)), (2, .inl (.int a_l2))]) rfl rfl ?_
            refine sf_aload rfl ?_
            refine sf_geti hI0 rfl rfl (fun v34 lv34 uv34 ev34 => ?_)
            refine sf_istore (L' := [(0, .inl (.ref 35)), (1, .inl (.int a_l1)), (2, .inl (.int a_l2))]) rfl ?_
            refine sf_aload rfl ?_
            refine sf_getr hI0 rfl rfl ?_
            refine sf_iload rfl ?_
            refine sf_iload rfl ?_
            refine sf_iast hI0 hs0 rfl (by omega) (sf_bd _) rfl rfl (fun w35 Iw35 sw35 kw35 uw35 => ?_)
            have c36 := sf_mf kw35 (p := 35) (j := 0) rfl
            have c37 := sf_ma kw35 (p := 37) rfl
            clear kw35
            have u36 := uw35
            rw [show v34.toInt = (sf_f w0 35 0).toInt by omega] at u36
            skip
            refine sf_aload rfl ?_
            refine sf_getr Iw35 rfl rfl ?_
            refine sf_iload rfl ?_
            refine sf_iload rfl ?_
            refine sf_iast Iw35 sw35 rfl (by omega) (sf_bd _) rfl rfl (fun w38 Iw38 sw38 kw38 uw38 => ?_)
            have c39 := sf_mf kw38 (p := 35) (j := 0) rfl
            have c40 := sf_ma kw38 (p := 36) rfl
            clear kw38
            have u37 := uw38
            rw [show v34.toInt = (sf_f w0 35 0).toInt by omega] at u37
            rw [c37] at u37
            refine sf_aload rfl ?_
            refine sf_dup rfl ?_
            refine sf_geti Iw38 rfl rfl (fun v41 lv41 uv41 ev41 => ?_)
            rw [c39, c36] at ev41
            refine sf_iconst sf_c1 (fun z42 ez42 => ?_)
            refine sf_iadd (by omega) (fun v43 ev43 => ?_)
            refine sf_puti Iw38 sw38 rfl rfl (by omega) rfl rfl rfl (fun w44 Iw44 sw44 kw44 uw44 => ?_)
            have c45 := sf_ma kw44 (p := 36) rfl
            have c46 := sf_ma kw44 (p := 37) rfl
            clear kw44
            refine sf_iload rfl ?_
            refine sf_ireturn rfl rfl ?_
            refine sf_ireturn rfl rfl ?_
            refine sf_i2l (fun v47 ev47 => ?_)
            refine sf_last Iw44 sw44 rfl (by omega) rfl rfl (fun w48 Iw48 sw48 kw48 uw48 => ?_)
            have c49 := sf_mf kw48 (p := 35) (j := 0) rfl
            have c50 := sf_ma kw48 (p := 36) rfl
            have c51 := sf_ma kw48 (p := 37) rfl
            clear kw48
            have go : (sf_l w48 130 0).toInt = v47.toInt := by rw [uw48, show z1.toInt.toNat = 0 by omega]; unfold vp_updL; rw [if_pos rfl]
            refine sf_iconst sf_c0 (fun z52 ez52 => ?_)
            refine sf_ireturn rfl rfl ?_
            exact hR _ _ Iw48 sw48 (by omega) (by omega) (by rw [c49, uw44]; first | (refine Or.inl ⟨by omega, ?_⟩; omega) | (refine Or.inr (Or.inl ⟨by omega, ?_⟩); omega) | (refine Or.inr (Or.inr ⟨by omega, ?_⟩); omega)) (by rw [c50, c45, c40]; first | exact Or.inl ⟨by omega, rfl⟩ | exact Or.inr ⟨by omega, u36⟩) (by rw [c51, c46]; first | exact Or.inl ⟨by omega, rfl⟩ | exact Or.inr ⟨by omega, u37⟩)
def sm_W_line_0_130 : List Nat := [38, 42, 43, 44, 45, 46, 47, 130]
set_option maxRecDepth 100000 in
set_option maxHeartbeats 4000000 in
theorem sc_W_line_0_130 {w0 : wq_W} (hI0 : sf_I w0) {rt : Option wq_V → wq_W → Prop} {xt : Nat → wq_W → Prop} {a_l1 : Int32} {a_l2 : Int32} {a_l3 : Int32} {a_l4 : Int32} {a_l5 : Int32} {a_l6 : Int32} {a_l7 : Int32} (p0 : 0 ≤ a_l7.toInt) (p1 : a_l7.toInt ≤ 1) (hR : ∀ (r : Int32) (w : wq_W), sf_I w → sf_m sm_W_line_0_130 w0 w → 0 ≤ r.toInt → r.toInt ≤ 2 → (((r.toInt = 0 ∧ (0 ≤ a_l1.toInt ∧ a_l1.toInt < (sf_f w0 35 0).toInt ∧ 0 ≤ a_l2.toInt ∧ a_l2.toInt ≤ 15 ∧ 0 ≤ a_l3.toInt ∧ a_l3.toInt ≤ 7 ∧ 1 ≤ a_l4.toInt ∧ a_l4.toInt ≤ 1000 ∧ 0 ≤ a_l5.toInt ∧ a_l5.toInt ≤ 1000000 ∧ 0 ≤ a_l6.toInt ∧ a_l6.toInt ≤ 100000000) ∧ ((sf_a w0 40 a_l1.toInt.toNat).toInt = 0 ∧ (sf_a w0 38 a_l1.toInt.toNat).toInt < 4) ∧ (sf_l w 130 0).toInt = (sf_a w0 38 a_l1.toInt.toNat).toInt) ∨ (r.toInt = 1 ∧ ¬ (0 ≤ a_l1.toInt ∧ a_l1.toInt < (sf_f w0 35 0).toInt ∧ 0 ≤ a_l2.toInt ∧ a_l2.toInt ≤ 15 ∧ 0 ≤ a_l3.toInt ∧ a_l3.toInt ≤ 7 ∧ 1 ≤ a_l4.toInt ∧ a_l4.toInt ≤ 1000 ∧ 0 ≤ a_l5.toInt ∧ a_l5.toInt ≤ 1000000 ∧ 0 ≤ a_l6.toInt ∧ a_l6.toInt ≤ 100000000)) ∨ (r.toInt = 2 ∧ (0 ≤ a_l1.toInt ∧ a_l1.toInt < (sf_f w0 35 0).toInt ∧ 0 ≤ a_l2.toInt ∧ a_l2.toInt ≤ 15 ∧ 0 ≤ a_l3.toInt ∧ a_l3.toInt ≤ 7 ∧ 1 ≤ a_l4.toInt ∧ a_l4.toInt ≤ 1000 ∧ 0 ≤ a_l5.toInt ∧ a_l5.toInt ≤ 1000000 ∧ 0 ≤ a_l6.toInt ∧ a_l6.toInt ≤ 100000000) ∧ ¬ ((sf_a w0 40 a_l1.toInt.toNat).toInt = 0 ∧ (sf_a w0 38 a_l1.toInt.toNat).toInt < 4)))) → (sf_U (sf_a w0 42) (sf_a w 42) (4 * a_l1.toInt + (sf_a w0 38 a_l1.toInt.toNat).toInt) r.toInt a_l2) → (sf_U (sf_a w0 43) (sf_a w 43) (4 * a_l1.toInt + (sf_a w0 38 a_l1.toInt.toNat).toInt) r.toInt a_l3) → (sf_U (sf_a w0 44) (sf_a w 44) (4 * a_l1.toInt + (sf_a w0 38 a_l1.toInt.toNat).toInt) r.toInt a_l4) → (sf_U (sf_a w0 47) (sf_a w 47) (4 * a_l1.toInt + (sf_a w0 38 a_l1.toInt.toNat).toInt) r.toInt a_l7) → (sl_UL (sf_a w0 38) (sf_a w 38) a_l1.toInt r.toInt) → rt (some (.inl (.int r))) w) : ks_W_line [.inl (.ref 0), .inl (.int a_l1), .inl (.int a_l2), .inl (.int a_l3), .inl (.int a_l4), .inl (.int a_l5), .inl (.int a_l6), .inl (.int a_l7), .inl (.ref 130)] w0 rt xt := by
  have hs0 : sf_m sm_W_line_0_130 w0 w0 := sf_m0
  refine sf_sp (L := [(0, .inl (.ref 0)), (1, .inl (.int a_l1)), (2, .inl (.int a_l2)), (3, .inl (.int a_l3)), (4, .inl (.int a_l4)), (5, .inl (.int a_l5)), (6, .inl (.int a_l6)), (7, .inl (.int a_l7)), (8, .inl (.ref 130))]) rfl rfl ?_
  refine sf_aload rfl ?_
  refine sf_iconst sf_c0 (fun z1 ez1 => ?_)
  refine sf_aload rfl ?_
  refine sf_iload rfl ?_
  refine sf_iload rfl ?_
  refine sf_iload rfl ?_
  refine sf_iload rfl ?_
  refine sf_iload rfl ?_
  refine sf_iload rfl ?_
  refine sf_iload rfl ?_
  refine sf_call8 rfl rfl rfl ?_
  refine sf_rv hI0 rfl ?_
  refine sf_sp (L := [(0, .inl (.ref 0)), (1, .inl (.int a_l1)), (2, .inl (.int a_l2)), (3, .inl (.int a_l3)), (4, .inl (.int a_l4)), (5, .inl (.int a_l5)), (6, .inl (.int a_l6)), (7, .inl (.int a_l7))]) rfl rfl ?_
  refine sf_aload rfl ?_
  refine sf_iload rfl ?_
  refine sf_call2 rfl rfl rfl ?_
  refine sf_rv hI0 rfl ?_
  refine sf_sp (L := [(0, .inl (.ref 0)), (1, .inl (.int a_l1))]) rfl rfl ?_
  refine sf_iload rfl ?_
  refine sf_aload rfl ?_
  refine sf_getr hI0 rfl rfl ?_
  refine sf_geti hI0 rfl rfl (fun v2 lv2 uv2 ev2 => ?_)
  refine sf_call2 rfl rfl rfl ?_
  refine sf_sp (L := [(0, .inl (.int a_l1)), (1, .inl (.int v2))]) rfl rfl ?_
  refine sf_iconst sf_c0 (fun z3 ez3 => ?_)
  refine sf_iload rfl ?_
  refine sf_f2_gt (fun h4 => ?_) (fun h4 => ?_)
  · refine sf_iconst sf_c0 (fun z5 ez5 => ?_)
    refine sf_zreturn (by omega) rfl rfl ?_
    refine sf_zreturn (by omega) rfl rfl ?_
    refine sf_f1_eq (fun h6 => ?_) (fun h6 => absurd h6 (by omega))
    refine sf_iconst sf_c0 (fun z7 ez7 => ?_)
    refine sf_call1 rfl rfl rfl ?_
    refine sf_sp (L := [(0, .inl (.int z7))]) rfl rfl ?_
    refine sf_iload rfl ?_
    refine sf_f1_eq (fun h8 => ?_) (fun h8 => absurd h8 (by omega))
    refine sf_throw rfl rfl ?_
    refine sf_xout rfl rfl ?_
    refine sf_xhh (L' := [(0, .inl (.ref 0)), (1, .inl (.int a_l1)), (2, .inl (.int a_l2)), (3, .inl (.int a_l3)), (4, .inl (.int a_l4)), (5, .inl (.int a_l5)), (6, .inl (.int a_l6)), (7, .inl (.int a_l7)), (8, .inl (.ref 130))]) rfl rfl ?_
    refine sf_iconst sf_c1 (fun z9 ez9 => ?_)
    refine sf_ireturn rfl rfl ?_
    exact hR _ _ hI0 hs0 (by omega) (by omega) (by first | (refine Or.inl ⟨by omega, ?_⟩; omega) | (refine Or.inr (Or.inl ⟨by omega, ?_⟩); omega) | (refine Or.inr (Or.inr ⟨by omega, ?_⟩); omega)) (by first | exact Or.inl ⟨by omega, rfl⟩ | exact Or.inr ⟨by omega, u42⟩) (by first | exact Or.inl ⟨by omega, rfl⟩ | exact Or.inr ⟨by omega, u43⟩) (by first | exact Or.inl ⟨by omega, rfl⟩ | exact Or.inr ⟨by omega, u44⟩) (by first | exact Or.inl ⟨by omega, rfl⟩ | exact Or.inr ⟨by omega, u47⟩) (by exact Or.inl ⟨by omega, rfl⟩)
  · refine sf_iload rfl ?_
    refine sf_iload rfl ?_
    refine sf_f2_ge (fun h10 => ?_) (fun h10 => ?_)
    · refine sf_iconst sf_c0 (fun z11 ez11 => ?_)
      refine sf_zreturn (by omega) rfl rfl ?_
      refine sf_zreturn (by omega) rfl rfl ?_
      refine sf_f1_eq (fun h12 => ?_) (fun h12 => absurd h12 (by omega))
      refine sf_iconst sf_c0 (fun z13 ez13 => ?_)
      refine sf_call1 rfl rfl rfl ?_
      refine sf_sp (L := [(0, .inl (.int z13))]) rfl rfl ?_
      refine sf_iload rfl ?_
      refine sf_f1_eq (fun h14 => ?_) (fun h14 => absurd h14 (by omega))
      refine sf_throw rfl rfl ?_
      refine sf_xout rfl rfl ?_
      refine sf_xhh (L' := [(0, .inl (.ref 0)), (1, .inl (.int a_l1)), (2, .inl (.int a_l2)), (3, .inl (.int a_l3)), (4, .inl (.int a_l4)), (5, .inl (.int a_l5)), (6, .inl (.int a_l6)), (7, .inl (.int a_l7)), (8, .inl (.ref 130))]) rfl rfl ?_
      refine sf_iconst sf_c1 (fun z15 ez15 => ?_)
      refine sf_ireturn rfl rfl ?_
      exact hR _ _ hI0 hs0 (by omega) (by omega) (by first | (refine Or.inl ⟨by omega, ?_⟩; omega) | (refine Or.inr (Or.inl ⟨by omega, ?_⟩); omega) | (refine Or.inr (Or.inr ⟨by omega, ?_⟩); omega)) (by first | exact Or.inl ⟨by omega, rfl⟩ | exact Or.inr ⟨by omega, u42⟩) (by first | exact Or.inl ⟨by omega, rfl⟩ | exact Or.inr ⟨by omega, u43⟩) (by first | exact Or.inl ⟨by omega, rfl⟩ | exact Or.inr ⟨by omega, u44⟩) (by first | exact Or.inl ⟨by omega, rfl⟩ | exact Or.inr ⟨by omega, u47⟩) (by exact Or.inl ⟨by omega, rfl⟩)
    · refine sf_iconst sf_c1 (fun z16 ez16 => ?_)
      refine sf_zreturn (by omega) rfl rfl ?_
      refine sf_zreturn (by omega) rfl rfl ?_
      refine sf_f1_eq (fun h17 => absurd h17 (by omega)) (fun h17 => ?_)
      refine sf_iload rfl ?_
      refine sf_call1 rfl rfl rfl ?_
      refine sf_sp (L := [(0, .inl (.int a_l2))]) rfl rfl ?_
      refine sf_iload rfl ?_
      refine sf_iconst sf_c16 (fun z18 ez18 => ?_)
      refine sf_call2 rfl rfl rfl ?_
      refine sf_sp (L := [(0, .inl (.int a_l2)), (1, .inl (.int z18))]) rfl rfl ?_
      refine sf_iconst sf_c0 (fun z19 ez19 => ?_)
      refine sf_iload rfl ?_
      refine sf_f2_gt (fun h20 => ?_) (fun h20 => ?_)
      · refine sf_iconst sf_c0 (fun z21 ez21 => ?_)
        refine sf_zreturn (by omega) rfl rfl ?_
        refine sf_zreturn (by omega) rfl rfl ?_
        refine sf_f1_eq (fun h22 => ?_) (fun h22 => absurd h22 (by omega))
        refine sf_iconst sf_c0 (fun z23 ez23 => ?_)
        refine sf_call1 rfl rfl rfl ?_
        refine sf_sp (L := [(0, .inl (.int z23))]) rfl rfl ?_
        refine sf_iload rfl ?_
        refine sf_f1_eq (fun h24 => ?_) (fun h24 => absurd h24 (by omega))
        refine sf_throw rfl rfl ?_
        refine sf_xout rfl rfl ?_
        refine sf_xhh (L' := [(0, .inl (.ref 0)), (1, .inl (.int a_l1)), (2, .inl (.int a_l2)), (3, .inl (.int a_l3)), (4, .inl (.int a_l4)), (5, .inl (.int a_l5)), (6, .inl (.int a_l6)), (7, .inl (.int a_l7)), (8, .inl (.ref 130))]) rfl rfl ?_
        refine sf_iconst sf_c1 (fun z25 ez25 => ?_)
        refine sf_ireturn rfl rfl ?_
        exact hR _ _ hI0 hs0 (by omega) (by omega) (by first | (refine Or.inl ⟨by omega, ?_⟩; omega) | (refine Or.inr (Or.inl ⟨by omega, ?_⟩); omega) | (refine Or.inr (Or.inr ⟨by omega, ?_⟩); omega)) (by first | exact Or.inl ⟨by omega, rfl⟩ | exact Or.inr ⟨by omega, u42⟩) (by first | exact Or.inl ⟨by omega, rfl⟩ | exact Or.inr ⟨by omega, u43⟩) (by first | exact Or.inl ⟨by omega, rfl⟩ | exact Or.inr ⟨by omega, u44⟩) (by first | exact Or.inl ⟨by omega, rfl⟩ | exact Or.inr ⟨by omega, u47⟩) (by exact Or.inl ⟨by omega, rfl⟩)
      · refine sf_iload rfl ?_
        refine sf_iload rfl ?_
        refine sf_f2_ge (fun h26 => ?_) (fun h26 => ?_)
        · refine sf_iconst sf_c0 (fun z27 ez27 => ?_)
          refine sf_zreturn (by omega) rfl rfl ?_
          refine sf_zreturn (by omega) rfl rfl ?_
          refine sf_f1_eq (fun h28 => ?_) (fun h28 => absurd h28 (by omega))
          refine sf_iconst sf_c0 (fun z29 ez29 => ?_)
          refine sf_call1 rfl rfl rfl ?_
          refine sf_sp (L := [(0, .inl (.int z29))]) rfl rfl ?_
          refine sf_iload rfl ?_
          refine sf_f1_eq (fun h30 => ?_) (fun h30 => absurd h30 (by omega))
          refine sf_throw rfl rfl ?_
          refine sf_xout rfl rfl ?_
          refine sf_xhh (L' := [(0, .inl (.ref 0)), (1, .inl (.int a_l1)), (2, .inl (.int a_l2)), (3, .inl (.int a_l3)), (4, .inl (.int a_l4)), (5, .inl (.int a_l5)), (6, .inl (.int a_l6)), (7, .inl (.int a_l7)), (8, .inl (.ref 130))]) rfl rfl ?_
          refine sf_iconst sf_c1 (fun z31 ez31 => ?_)
          refine sf_ireturn rfl rfl ?_
          exact hR _ _ hI0 hs0 (by omega) (by omega) (by first | (refine Or.inl ⟨by omega, ?_⟩; omega) | (refine Or.inr (Or.inl ⟨by omega, ?_⟩); omega) | (refine Or.inr (Or.inr ⟨by omega, ?_⟩); omega)) (by first | exact Or.inl ⟨by omega, rfl⟩ | exact Or.inr ⟨by omega, u42⟩) (by first | exact Or.inl ⟨by omega, rfl⟩ | exact Or.inr ⟨by omega, u43⟩) (by first | exact Or.inl ⟨by omega, rfl⟩ | exact Or.inr ⟨by omega, u44⟩) (by first | exact Or.inl ⟨by omega, rfl⟩ | exact Or.inr ⟨by omega, u47⟩) (by exact Or.inl ⟨by omega, rfl⟩)
        · refine sf_iconst sf_c1 (fun z32 ez32 => ?_)
          refine sf_zreturn (by omega) rfl rfl ?_
          refine sf_zreturn (by omega) rfl rfl ?_
          refine sf_f1_eq (fun h33 => absurd h33 (by omega)) (fun h33 => ?_)
          refine sf_iload rfl ?_
          refine sf_call1 rfl rfl rfl ?_
          refine sf_sp (L := [(0, .inl (.int a_l3))]) rfl rfl ?_
          refine sf_iload rfl ?_
          refine sf_iconst sf_c8 (fun z34 ez34 => ?_)
          refine sf_call2 rfl rfl rfl ?_
          refine sf_sp (L := [(0, .inl (.int a_l3)), (1, .inl (.int z34))]) rfl rfl ?_
          refine sf_iconst sf_c0 (fun z35 ez35 => ?_)
          refine sf_iload rfl ?_
          refine sf_f2_gt (fun h36 => ?_) (fun h36 => ?_)
          · refine sf_iconst sf_c0 (fun z37 ez37 => ?_)
            refine sf_zreturn (by omega) rfl rfl ?_
            refine sf_zreturn (by omega) rfl rfl ?_
            refine sf_f1_eq (fun h38 => ?_) (fun h38 => absurd h38 (by omega))
            refine sf_iconst sf_c0 (fun z39 ez39 => ?_)
            refine sf_call1 rfl rfl rfl ?_
            refine sf_sp (L := [(0, .inl (.int z39))]) rfl rfl ?_
            refine sf_iload rfl ?_
            refine sf_f1_eq (fun h40 => ?_) (fun h40 => absurd h40 (by omega))
            refine sf_throw rfl rfl ?_
            refine sf_xout rfl rfl ?_
            refine sf_xhh (L' := [(0, .inl (.ref 0)), (1, .inl (.int a_l1)), (2, .inl (.int a_l2)), (3, .inl (.int a_l3)), (4, .inl (.int a_l4)), (5, .inl (.int a_l5)), (6, .inl (.int a_l6)), (7, .inl (.int a_l7)), (8, .inl (.ref 130))]) rfl rfl ?_
            refine sf_iconst sf_c1 (fun z41 ez41 => ?_)
            refine sf_ireturn rfl rfl ?_
            exact hR _ _ hI0 hs0 (by omega) (by omega) (by first | (refine Or.inl ⟨by omega, ?_⟩; omega) | (refine Or.inr (Or.inl ⟨by omega, ?_⟩); omega) | (refine Or.inr (Or.inr ⟨by omega, ?_⟩); omega)) (by first | exact Or.inl ⟨by omega, rfl⟩ | exact Or.inr ⟨by omega, u42⟩) (by first | exact Or.inl ⟨by omega, rfl⟩ | exact Or.inr ⟨by omega, u43⟩) (by first | exact Or.inl ⟨by omega, rfl⟩ | exact Or.inr ⟨by omega, u44⟩) (by first | exact Or.inl ⟨by omega, rfl⟩ | exact Or.inr ⟨by omega, u47⟩) (by exact Or.inl ⟨by omega, rfl⟩)
          · refine sf_iload rfl ?_
            refine sf_iload rfl ?_
            refine sf_f2_ge (fun h42 => ?_) (fun h42 => ?_)
            · refine sf_iconst sf_c0 (fun z43 ez43 => ?_)
              refine sf_zreturn (by omega) rfl rfl ?_
              refine sf_zreturn (by omega) rfl rfl ?_
              refine sf_f1_eq (fun h44 => ?_) (fun h44 => absurd h44 (by omega))
              refine sf_iconst sf_c0 (fun z45 ez45 => ?_)
              refine sf_call1 rfl rfl rfl ?_
              refine sf_sp (L := [(0, .inl (.int z45))]) rfl rfl ?_
              refine sf_iload rfl ?_
              refine sf_f1_eq (fun h46 => ?_) (fun h46 => absurd h46 (by omega))
              refine sf_throw rfl rfl ?_
              refine sf_xout rfl rfl ?_
              refine sf_xhh (L' := [(0, .inl (.ref 0)), (1, .inl (.int a_l1)), (2, .inl (.int a_l2)), (3, .inl (.int a_l3)), (4, .inl (.int a_l4)), (5, .inl (.int a_l5)), (6, .inl (.int a_l6)), (7, .inl (.int a_l7)), (8, .inl (.ref 130))]) rfl rfl ?_
              refine sf_iconst sf_c1 (fun z47 ez47 => ?_)
              refine sf_ireturn rfl rfl ?_
              exact hR _ _ hI0 hs0 (by omega) (by omega) (by first | (refine Or.inl ⟨by omega, ?_⟩; omega) | (refine Or.inr (Or.inl ⟨by omega, ?_⟩); omega) | (refine Or.inr (Or.inr ⟨by omega, ?_⟩); omega)) (by first | exact Or.inl ⟨by omega, rfl⟩ | exact Or.inr ⟨by omega, u42⟩) (by first | exact Or.inl ⟨by omega, rfl⟩ | exact Or.inr ⟨by omega, u43⟩) (by first | exact Or.inl ⟨by omega, rfl⟩ | exact Or.inr ⟨by omega, u44⟩) (by first | exact Or.inl ⟨by omega, rfl⟩ | exact Or.inr ⟨by omega, u47⟩) (by exact Or.inl ⟨by omega, rfl⟩)
            · refine sf_iconst sf_c1 (fun z48 ez48 => ?_)
              refine sf_zreturn (by omega) rfl rfl ?_
              refine sf_zreturn (by omega) rfl rfl ?_
              refine sf_f1_eq (fun h49 => absurd h49 (by omega)) (fun h49 => ?_)
              refine sf_iconst sf_c1 (fun z50 ez50 => ?_)
              refine sf_call1 rfl rfl rfl ?_
              refine sf_sp (L := [(0, .inl (.int z50))]) rfl rfl ?_
              refine sf_iload rfl ?_
              refine sf_f1_eq (fun h51 => absurd h51 (by omega)) (fun h51 => ?_)
              refine sf_vreturn rfl rfl ?_
              refine sf_iconst sf_c0 (fun z52 ez52 => ?_)
              refine sf_iload rfl ?_
              refine sf_call2 rfl rfl rfl ?_
              refine sf_sp (L := [(0, .inl (.int z52)), (1, .inl (.int a_l4))]) rfl rfl ?_
              refine sf_iload rfl ?_
              refine sf_sw1 sf_c0 (fun h53 => ?_) (fun h53 => absurd h53 (by omega))
              refine sf_iload rfl ?_
              refine sf_iconst sf_c1 (fun z54 ez54 => ?_)
              refine sf_iconst sf_c1000 (fun z55 ez55 => ?_)
              refine sf_call3 rfl rfl rfl ?_
              refine sf_sp (L := [(0, .inl (.int a_l4)), (1, .inl (.int z54)), (2, .inl (.int z55))]) rfl rfl ?_
              refine sf_iload rfl ?_
              refine sf_iload rfl ?_
              refine sf_f2_gt (fun h56 => ?_) (fun h56 => ?_)
              · refine sf_iconst sf_c0 (fun z57 ez57 => ?_)
                refine sf_zreturn (by omega) rfl rfl ?_
                refine sf_zreturn (by omega) rfl rfl ?_
                refine sf_call1 rfl rfl rfl ?_
                refine sf_sp (L := [(0, .inl (.int z57))]) rfl rfl ?_
                refine sf_iload rfl ?_
                refine sf_f1_eq (fun h58 => ?_) (fun h58 => absurd h58 (by omega))
                refine sf_throw rfl rfl ?_
                refine sf_xout rfl rfl ?_
                refine sf_xhh (L' := [(0, .inl (.ref 0)), (1, .inl (.int a_l1)), (2, .inl (.int a_l2)), (3, .inl (.int a_l3)), (4, .inl (.int a_l4)), (5, .inl (.int a_l5)), (6, .inl (.int a_l6)), (7, .inl (.int a_l7)), (8, .inl (.ref 130))]) rfl rfl ?_
                refine sf_iconst sf_c1 (fun z59 ez59 => ?_)
                refine sf_ireturn rfl rfl ?_
                exact hR _ _ hI0 hs0 (by omega) (by omega) (by first | (refine Or.inl ⟨by omega, ?_⟩; omega) | (refine Or.inr (Or.inl ⟨by omega, ?_⟩); omega) | (refine Or.inr (Or.inr ⟨by omega, ?_⟩); omega)) (by first | exact Or.inl ⟨by omega, rfl⟩ | exact Or.inr ⟨by omega, u42⟩) (by first | exact Or.inl ⟨by omega, rfl⟩ | exact Or.inr ⟨by omega, u43⟩) (by first | exact Or.inl ⟨by omega, rfl⟩ | exact Or.inr ⟨by omega, u44⟩) (by first | exact Or.inl ⟨by omega, rfl⟩ | exact Or.inr ⟨by omega, u47⟩) (by exact Or.inl ⟨by omega, rfl⟩)
              · refine sf_iload rfl ?_
                refine sf_iload rfl ?_
                refine sf_f2_gt (fun h60 => ?_) (fun h60 => ?_)
                · refine sf_iconst sf_c0 (fun z61 ez61 => ?_)
                  refine sf_zreturn (by omega) rfl rfl ?_
                  refine sf_zreturn (by omega) rfl rfl ?_
                  refine sf_call1 rfl rfl rfl ?_
                  refine sf_sp (L := [(0, .inl (.int z61))]) rfl rfl ?_
                  refine sf_iload rfl ?_
                  refine sf_f1_eq (fun h62 => ?_) (fun h62 => absurd h62 (by omega))
                  refine sf_throw rfl rfl ?_
                  refine sf_xout rfl rfl ?_
                  refine sf_xhh (L' := [(0, .inl (.ref 0)), (1, .inl (.int a_l1)), (2, .inl (.int a_l2)), (3, .inl (.int a_l3)), (4, .inl (.int a_l4)), (5, .inl (.int a_l5)), (6, .inl (.int a_l6)), (7, .inl (.int a_l7)), (8, .inl (.ref 130))]) rfl rfl ?_
                  refine sf_iconst sf_c1 (fun z63 ez63 => ?_)
                  refine sf_ireturn rfl rfl ?_
                  exact hR _ _ hI0 hs0 (by omega) (by omega) (by first | (refine Or.inl ⟨by omega, ?_⟩; omega) | (refine Or.inr (Or.inl ⟨by omega, ?_⟩); omega) | (refine Or.inr (Or.inr ⟨by omega, ?_⟩); omega)) (by first | exact Or.inl ⟨by omega, rfl⟩ | exact Or.inr ⟨by omega, u42⟩) (by first | exact Or.inl ⟨by omega, rfl⟩ | exact Or.inr ⟨by omega, u43⟩) (by first | exact Or.inl ⟨by omega, rfl⟩ | exact Or.inr ⟨by omega, u44⟩) (by first | exact Or.inl ⟨by omega, rfl⟩ | exact Or.inr ⟨by omega, u47⟩) (by exact Or.inl ⟨by omega, rfl⟩)
                · refine sf_iconst sf_c1 (fun z64 ez64 => ?_)
                  refine sf_zreturn (by omega) rfl rfl ?_
                  refine sf_zreturn (by omega) rfl rfl ?_
                  refine sf_call1 rfl rfl rfl ?_
                  refine sf_sp (L := [(0, .inl (.int z64))]) rfl rfl ?_
                  refine sf_iload rfl ?_
                  refine sf_f1_eq (fun h65 => absurd h65 (by omega)) (fun h65 => ?_)
                  refine sf_vreturn rfl rfl ?_
                  refine sf_iconst sf_c1 (fun z66 ez66 => ?_)
                  refine sf_iload rfl ?_
                  refine sf_call2 rfl rfl rfl ?_
                  refine sf_sp (L := [(0, .inl (.int z66)), (1, .inl (.int a_l5))]) rfl rfl ?_
                  refine sf_iload rfl ?_
                  refine sf_sw1 sf_c0 (fun h67 => absurd h67 (by omega)) (fun h67 => ?_)
                  refine sf_sw1 sf_c1 (fun h68 => ?_) (fun h68 => absurd h68 (by omega))
                  refine sf_iload rfl ?_
                  refine sf_iconst sf_c0 (fun z69 ez69 => ?_)
                  refine sf_iconst sf_cl1000000 (fun z70 ez70 => ?_)
                  refine sf_call3 rfl rfl rfl ?_
                  refine sf_sp (L := [(0, .inl (.int a_l5)), (1, .inl (.int z69)), (2, .inl (.int z70))]) rfl rfl ?_
                  refine sf_iload rfl ?_
                  refine sf_iload rfl ?_
                  refine sf_f2_gt (fun h71 => ?_) (fun h71 => ?_)
                  · refine sf_iconst sf_c0 (fun z72 ez72 => ?_)
                    refine sf_zreturn (by omega) rfl rfl ?_
                    refine sf_zreturn (by omega) rfl rfl ?_
                    refine sf_call1 rfl rfl rfl ?_
                    refine sf_sp (L := [(0, .inl (.int z72))]) rfl rfl ?_
                    refine sf_iload rfl ?_
                    refine sf_f1_eq (fun h73 => ?_) (fun h73 => absurd h73 (by omega))
                    refine sf_throw rfl rfl ?_
                    refine sf_xout rfl rfl ?_
                    refine sf_xhh (L' := [(0, .inl (.ref 0)), (1, .inl (.int a_l1)), (2, .inl (.int a_l2)), (3, .inl (.int a_l3)), (4, .inl (.int a_l4)), (5, .inl (.int a_l5)), (6, .inl (.int a_l6)), (7, .inl (.int a_l7)), (8, .inl (.ref 130))]) rfl rfl ?_
                    refine sf_iconst sf_c1 (fun z74 ez74 => ?_)
                    refine sf_ireturn rfl rfl ?_
                    exact hR _ _ hI0 hs0 (by omega) (by omega) (by first | (refine Or.inl ⟨by omega, ?_⟩; omega) | (refine Or.inr (Or.inl ⟨by omega, ?_⟩); omega) | (refine Or.inr (Or.inr ⟨by omega, ?_⟩); omega)) (by first | exact Or.inl ⟨by omega, rfl⟩ | exact Or.inr ⟨by omega, u42⟩) (by first | exact Or.inl ⟨by omega, rfl⟩ | exact Or.inr ⟨by omega, u43⟩) (by first | exact Or.inl ⟨by omega, rfl⟩ | exact Or.inr ⟨by omega, u44⟩) (by first | exact Or.inl ⟨by omega, rfl⟩ | exact Or.inr ⟨by omega, u47⟩) (by exact Or.inl ⟨by omega, rfl⟩)
                  · refine sf_iload rfl ?_
                    refine sf_iload rfl ?_
                    refine sf_f2_gt (fun h75 => ?_) (fun h75 => ?_)
                    · refine sf_iconst sf_c0 (fun z76 ez76 => ?_)
                      refine sf_zreturn (by omega) rfl rfl ?_
                      refine sf_zreturn (by omega) rfl rfl ?_
                      refine sf_call1 rfl rfl rfl ?_
                      refine sf_sp (L := [(0, .inl (.int z76))]) rfl rfl ?_
                      refine sf_iload rfl ?_
                      refine sf_f1_eq (fun h77 => ?_) (fun h77 => absurd h77 (by omega))
                      refine sf_throw rfl rfl ?_
                      refine sf_xout rfl rfl ?_
                      refine sf_xhh (L' := [(0, .inl (.ref 0)), (1, .inl (.int a_l1)), (2, .inl (.int a_l2)), (3, .inl (.int a_l3)), (4, .inl (.int a_l4)), (5, .inl (.int a_l5)), (6, .inl (.int a_l6)), (7, .inl (.int a_l7)), (8, .inl (.ref 130))]) rfl rfl ?_
                      refine sf_iconst sf_c1 (fun z78 ez78 => ?_)
                      refine sf_ireturn rfl rfl ?_
                      exact hR _ _ hI0 hs0 (by omega) (by omega) (by first | (refine Or.inl ⟨by omega, ?_⟩; omega) | (refine Or.inr (Or.inl ⟨by omega, ?_⟩); omega) | (refine Or.inr (Or.inr ⟨by omega, ?_⟩); omega)) (by first | exact Or.inl ⟨by omega, rfl⟩ | exact Or.inr ⟨by omega, u42⟩) (by first | exact Or.inl ⟨by omega, rfl⟩ | exact Or.inr ⟨by omega, u43⟩) (by first | exact Or.inl ⟨by omega, rfl⟩ | exact Or.inr ⟨by omega, u44⟩) (by first | exact Or.inl ⟨by omega, rfl⟩ | exact Or.inr ⟨by omega, u47⟩) (by exact Or.inl ⟨by omega, rfl⟩)
                    · refine sf_iconst sf_c1 (fun z79 ez79 => ?_)
                      refine sf_zreturn (by omega) rfl rfl ?_
                      refine sf_zreturn (by omega) rfl rfl ?_
                      refine sf_call1 rfl rfl rfl ?_
                      refine sf_sp (L := [(0, .inl (.int z79))]) rfl rfl ?_
                      refine sf_iload rfl ?_
                      refine sf_f1_eq (fun h80 => absurd h80 (by omega)) (fun h80 => ?_)
                      refine sf_vreturn rfl rfl ?_
                      refine sf_iconst sf_c2 (fun z81 ez81 => ?_)
                      refine sf_iload rfl ?_
                      refine sf_call2 rfl rfl rfl ?_
                      refine sf_sp (L := [(0, .inl (.int z81)), (1, .inl (.int a_l6))]) rfl rfl ?_
                      refine sf_iload rfl ?_
                      refine sf_sw1 sf_c0 (fun h82 => absurd h82 (by omega)) (fun h82 => ?_)
                      refine sf_sw1 sf_c1 (fun h83 => absurd h83 (by omega)) (fun h83 => ?_)
                      refine sf_sw1 sf_c2 (fun h84 => ?_) (fun h84 => absurd h84 (by omega))
                      refine sf_iload rfl ?_
                      refine sf_iconst sf_c0 (fun z85 ez85 => ?_)
                      refine sf_iconst sf_cl100000000 (fun z86 ez86 => ?_)
                      refine sf_call3 rfl rfl rfl ?_
                      refine sf_sp (L := [(0, .inl (.int a_l6)), (1, .inl (.int z85)), (2, .inl (.int z86))]) rfl rfl ?_
                      refine sf_iload rfl ?_
                      refine sf_iload rfl ?_
                      refine sf_f2_gt (fun h87 => ?_) (fun h87 => ?_)
                      · refine sf_iconst sf_c0 (fun z88 ez88 => ?_)
                        refine sf_zreturn (by omega) rfl rfl ?_
                        refine sf_zreturn (by omega) rfl rfl ?_
                        refine sf_call1 rfl rfl rfl ?_
                        refine sf_sp (L := [(0, .inl (.int z88))]) rfl rfl ?_
                        refine sf_iload rfl ?_
                        refine sf_f1_eq (fun h89 => ?_) (fun h89 => absurd h89 (by omega))
                        refine sf_throw rfl rfl ?_
                        refine sf_xout rfl rfl ?_
                        refine sf_xhh (L' := [(0, .inl (.ref 0)), (1, .inl (.int a_l1)), (2, .inl (.int a_l2)), (3, .inl (.int a_l3)), (4, .inl (.int a_l4)), (5, .inl (.int a_l5)), (6, .inl (.int a_l6)), (7, .inl (.int a_l7)), (8, .inl (.ref 130))]) rfl rfl ?_
                        refine sf_iconst sf_c1 (fun z90 ez90 => ?_)
                        refine sf_ireturn rfl rfl ?_
                        exact hR _ _ hI0 hs0 (by omega) (by omega) (by first | (refine Or.inl ⟨by omega, ?_⟩; omega) | (refine Or.inr (Or.inl ⟨by omega, ?_⟩); omega) | (refine Or.inr (Or.inr ⟨by omega, ?_⟩); omega)) (by first | exact Or.inl ⟨by omega, rfl⟩ | exact Or.inr ⟨by omega, u42⟩) (by first | exact Or.inl ⟨by omega, rfl⟩ | exact Or.inr ⟨by omega, u43⟩) (by first | exact Or.inl ⟨by omega, rfl⟩ | exact Or.inr ⟨by omega, u44⟩) (by first | exact Or.inl ⟨by omega, rfl⟩ | exact Or.inr ⟨by omega, u47⟩) (by exact Or.inl ⟨by omega, rfl⟩)
                      · refine sf_iload rfl ?_
                        refine sf_iload rfl ?_
                        refine sf_f2_gt (fun h91 => ?_) (fun h91 => ?_)
                        · refine sf_iconst sf_c0 (fun z92 ez92 => ?_)
                          refine sf_zreturn (by omega) rfl rfl ?_
                          refine sf_zreturn (by omega) rfl rfl ?_
                          refine sf_call1 rfl rfl rfl ?_
                          refine sf_sp (L := [(0, .inl (.int z92))]) rfl rfl ?_
                          refine sf_iload rfl ?_
                          refine sf_f1_eq (fun h93 => ?_) (fun h93 => absurd h93 (by omega))
                          refine sf_throw rfl rfl ?_
                          refine sf_xout rfl rfl ?_
                          refine sf_xhh (L' := [(0, .inl (.ref 0)), (1, .inl (.int a_l1)), (2, .inl (.int a_l2)), (3, .inl (.int a_l3)), (4, .inl (.int a_l4)), (5, .inl (.int a_l5)), (6, .inl (.int a_l6)), (7, .inl (.int a_l7)), (8, .inl (.ref 130))]) rfl rfl ?_
                          refine sf_iconst sf_c1 (fun z94 ez94 => ?_)
                          refine sf_ireturn rfl rfl ?_
                          exact hR _ _ hI0 hs0 (by omega) (by omega) (by first | (refine Or.inl ⟨by omega, ?_⟩; omega) | (refine Or.inr (Or.inl ⟨by omega, ?_⟩); omega) | (refine Or.inr (Or.inr ⟨by omega, ?_⟩); omega)) (by first | exact Or.inl ⟨by omega, rfl⟩ | exact Or.inr ⟨by omega, u42⟩) (by first | exact Or.inl ⟨by omega, rfl⟩ | exact Or.inr ⟨by omega, u43⟩) (by first | exact Or.inl ⟨by omega, rfl⟩ | exact Or.inr ⟨by omega, u44⟩) (by first | exact Or.inl ⟨by omega, rfl⟩ | exact Or.inr ⟨by omega, u47⟩) (by exact Or.inl ⟨by omega, rfl⟩)
                        · refine sf_iconst sf_c1 (fun z95 ez95 => ?_)
                          refine sf_zreturn (by omega) rfl rfl ?_
                          refine sf_zreturn (by omega) rfl rfl ?_
                          refine sf_call1 rfl rfl rfl ?_
                          refine sf_sp (L := [(0, .inl (.int z95))]) rfl rfl ?_
                          refine sf_iload rfl ?_
                          refine sf_f1_eq (fun h96 => absurd h96 (by omega)) (fun h96 => ?_)
                          refine sf_vreturn rfl rfl ?_
                          refine sf_aload rfl ?_
                          refine sf_getr hI0 rfl rfl ?_
                          refine sf_getr hI0 rfl rfl ?_
                          refine sf_iload rfl ?_
                          refine sf_zald hI0 rfl (by omega) (fun v97 lv97 uv97 ev97 => ?_)
                          refine sf_f1_eq (fun h98 => ?_) (fun h98 => ?_)
                          · refine sf_iconst sf_c1 (fun z99 ez99 => ?_)
                            refine sf_call1 rfl rfl rfl ?_
                            refine sf_sp (L := [(0, .inl (.int z99))]) rfl rfl ?_
                            refine sf_iload rfl ?_
                            refine sf_f1_eq (fun h100 => absurd h100 (by omega)) (fun h100 => ?_)
                            refine sf_vreturn rfl rfl ?_
                            refine sf_aload rfl ?_
                            refine sf_getr hI0 rfl rfl ?_
                            refine sf_getr hI0 rfl rfl ?_
                            refine sf_iload rfl ?_
                            refine sf_iald hI0 rfl (by omega) (fun v101 lv101 uv101 ev101 => ?_)
                            refine sf_iconst sf_c4 (fun z102 ez102 => ?_)
                            refine sf_f2_ge (fun h103 => ?_) (fun h103 => ?_)
                            · refine sf_iconst sf_c0 (fun z104 ez104 => ?_)
                              refine sf_call1 rfl rfl rfl ?_
                              refine sf_sp (L := [(0, .inl (.int z104))]) rfl rfl ?_
                              refine sf_iload rfl ?_
                              refine sf_f1_eq (fun h105 => ?_) (fun h105 => absurd h105 (by omega))
                              refine sf_throw rfl rfl ?_
                              refine sf_xout rfl rfl ?_
                              refine sf_xhm rfl ?_
                              refine sf_xhh (L' := [(0, .inl (.ref 0)), (1, .inl (.int a_l1)), (2, .inl (.int a_l2)), (3, .inl (.int a_l3)), (4, .inl (.int a_l4)), (5, .inl (.int a_l5)), (6, .inl (.int a_l6)), (7, .inl (.int a_l7)), (8, .inl (.ref 130))]) rfl rfl ?_
                              refine sf_iconst sf_c2 (fun z106 ez106 => ?_)
                              refine sf_ireturn rfl rfl ?_
                              exact hR _ _ hI0 hs0 (by omega) (by omega) (by first | (refine Or.inl ⟨by omega, ?_⟩; omega) | (refine Or.inr (Or.inl ⟨by omega, ?_⟩); omega) | (refine Or.inr (Or.inr ⟨by omega, ?_⟩); omega)) (by first | exact Or.inl ⟨by omega, rfl⟩ | exact Or.inr ⟨by omega, u42⟩) (by first | exact Or.inl ⟨by omega, rfl⟩ | exact Or.inr ⟨by omega, u43⟩) (by first | exact Or.inl ⟨by omega, rfl⟩ | exact Or.inr ⟨by omega, u44⟩) (by first | exact Or.inl ⟨by omega, rfl⟩ | exact Or.inr ⟨by omega, u47⟩) (by exact Or.inl ⟨by omega, rfl⟩)
                            · refine sf_iconst sf_c1 (fun z107 ez107 => ?_)
                              refine sf_call1 rfl rfl rfl ?_
                              refine sf_sp (L := [(0, .inl (.int z107))]) rfl rfl ?_
                              refine sf_iload rfl ?_
                              refine sf_f1_eq (fun h108 => absurd h108 (by omega)) (fun h108 => ?_)
                              refine sf_vreturn rfl rfl ?_
                              refine sf_aload rfl ?_
                              refine sf_getr hI0 rfl rfl ?_
                              refine sf_iload rfl ?_
                              refine sf_iload rfl ?_
                              refine sf_iload rfl ?_
                              refine sf_iload rfl ?_
                              refine sf_iload rfl ?_
                              refine sf_iload rfl ?_
                              refine sf_iload rfl ?_
                              refine sf_call8 rfl rfl rfl ?_
                              refine sf_rv hI0 rfl ?_
                              refine sf_sp (L := [(0, .inl (.ref 35)), (1, .inl (.int a_l1)), (2, .inl (.int a_l2)), (3, .inl (.int a_l3)), (4, .inl (.int a_l4)), (5, .inl (.int a_l5)), (6, .inl (.int a_l6)), (7, .inl (.int a_l7))]) rfl rfl ?_
                              refine sf_aload rfl ?_
                              refine sf_getr hI0 rfl rfl ?_
                              refine sf_iload rfl ?_
                              refine sf_iald hI0 rfl (by omega) (fun v109 lv109 uv109 ev109 => ?_)
                              refine sf_istore (L' := [(0, .inl (.ref 35)), (1, .inl (.int a_l1)), (2, .inl (.int a_l2)), (3, .inl (.int a_l3)), (4, .inl (.int a_l4)), (5, .inl (.int a_l5)), (6, .inl (.int a_l6)), (7, .inl (.int a_l7))]) rfl ?_
                              refine sf_iload rfl ?_
                              refine sf_iload rfl ?_
                              refine sf_call2 rfl rfl rfl ?_
                              refine sf_sp (L := [(0, .inl (.int a_l1)), (1, .inl (.int v109))]) rfl rfl ?_
                              refine sf_iload rfl ?_
                              refine sf_iconst sf_c4 (fun z110 ez110 => ?_)
                              refine sf_imulr (n := 4) (by omega) (by omega) (fun v111 ev111 => ?_)
                              refine sf_iload rfl ?_
                              refine sf_iadd (by omega) (fun v112 ev112 => ?_)
                              refine sf_ireturn rfl rfl ?_
                              refine sf_istore (L' := [(8, .inl (.int v109)), (0, .inl (.ref 35)), (1, .inl (.int a_l1)), (2, .inl (.int a_l2)), (3, .inl (.int a_l3)), (4, .inl (.int a_l4)), (5, .inl (.int a_l5)), (6, .inl (.int a_l6)), (7, .inl (.int a_l7))]) rfl ?_
                              refine sf_aload rfl ?_
                              refine sf_getr hI0 rfl rfl ?_
                              refine sf_iload rfl ?_
                              refine sf_iload rfl ?_
                              refine sf_iast hI0 hs0 rfl (by omega) (by omega) rfl rfl (fun w113 Iw113 sw113 kw113 uw113 => ?_)
                              have c114 := sf_ma kw113 (p := 38) rfl
                              have c115 := sf_ma kw113 (p := 43) rfl
                              have c116 := sf_ma kw113 (p := 44) rfl
                              have c117 := sf_ma kw113 (p := 47) rfl
                              clear kw113
                              have u42 := uw113
                              rw [show v112.toInt = (4 * a_l1.toInt + (sf_a w0 38 a_l1.toInt.toNat).toInt) by omega] at u42
                              skip
                              refine sf_aload rfl ?_
                              refine sf_getr Iw113 rfl rfl ?_
                              refine sf_iload rfl ?_
                              refine sf_iload rfl ?_
                              refine sf_iast Iw113 sw113 rfl (by omega) (sf_bd _) rfl rfl (fun w118 Iw118 sw118 kw118 uw118 => ?_)
                              have c119 := sf_ma kw118 (p := 38) rfl
                              have c120 := sf_ma kw118 (p := 42) rfl
                              have c121 := sf_ma kw118 (p := 44) rfl
                              have c122 := sf_ma kw118 (p := 47) rfl
                              clear kw118
                              have u43 := uw118
                              rw [show v112.toInt = (4 * a_l1.toInt + (sf_a w0 38 a_l1.toInt.toNat).toInt) by omega] at u43
                              rw [c115] at u43
                              refine sf_aload rfl ?_
                              refine sf_getr Iw118 rfl rfl ?_
                              refine sf_iload rfl ?_
                              refine sf_iload rfl ?_
                              refine sf_iast Iw118 sw118 rfl (by omega) (by omega) rfl rfl (fun w123 Iw123 sw123 kw123 uw123 => ?_)
                              have c124 := sf_ma kw123 (p := 38) rfl
                              have c125 := sf_ma kw123 (p := 42) rfl
                              have c126 := sf_ma kw123 (p := 43) rfl
                              have c127 := sf_ma kw123 (p := 47) rfl
                              clear kw123
                              have u44 := uw123
                              rw [show v112.toInt = (4 * a_l1.toInt + (sf_a w0 38 a_l1.toInt.toNat).toInt) by omega] at u44
                              rw [c121, c116] at u44
                              refine sf_aload rfl ?_
                              refine sf_getr Iw123 rfl rfl ?_
                              refine sf_iload rfl ?_
                              refine sf_iload rfl ?_
                              refine sf_iast Iw123 sw123 rfl (by omega) (sf_bd _) rfl rfl (fun w128 Iw128 sw128 kw128 uw128 => ?_)
                              have c129 := sf_ma kw128 (p := 38) rfl
                              have c130 := sf_ma kw128 (p := 42) rfl
                              have c131 := sf_ma kw128 (p := 43) rfl
                              have c132 := sf_ma kw128 (p := 44) rfl
                              have c133 := sf_ma kw128 (p := 47) rfl
                              clear kw128 uw128
                              refine sf_aload rfl ?_
                              refine sf_getr Iw128 rfl rfl ?_
                              refine sf_iload rfl ?_
                              refine sf_iload rfl ?_
                              refine sf_iast Iw128 sw128 rfl (by omega) (sf_bd _) rfl rfl (fun w134 Iw134 sw134 kw134 uw134 => ?_)
                              have c135 := sf_ma kw134 (p := 38) rfl
                              have c136 := sf_ma kw134 (p := 42) rfl
                              have c137 := sf_ma kw134 (p := 43) rfl
                              have c138 := sf_ma kw134 (p := 44) rfl
                              have c139 := sf_ma kw134 (p := 47) rfl
                              clear kw134 uw134
                              refine sf_aload rfl ?_
                              refine sf_getr Iw134 rfl rfl ?_
                              refine sf_iload rfl ?_
                              refine sf_iload rfl ?_
                              refine sf_zast Iw134 sw134 rfl (by omega) (by omega) rfl rfl (fun w140 Iw140 sw140 kw140 uw140 => ?_)
                              have c141 := sf_ma kw140 (p := 38) rfl
                              have c142 := sf_ma kw140 (p := 42) rfl
                              have c143 := sf_ma kw140 (p := 43) rfl
                              have c144 := sf_ma kw140 (p := 44) rfl
                              clear kw140
                              have u47 := uw140
                              rw [show v112.toInt = (4 * a_l1.toInt + (sf_a w0 38 a_l1.toInt.toNat).toInt) by omega] at u47
                              rw [c139, c133, c127, c122, c117] at u47
                              refine sf_aload rfl ?_
                              refine sf_getr Iw140 rfl rfl ?_
                              refine sf_iload rfl ?_
                              refine sf_dup2 rfl rfl ?_
                              refine sf_iald Iw140 rfl (by omega) (fun v145 lv145 uv145 ev145 => ?_)
                              rw [c141, c135, c129, c124, c119, c114] at ev145
                              refine sf_iconst sf_c1 (fun z146 ez146 => ?_)
                              refine sf_iadd (by omega) (fun v147 ev147 => ?_)
                              refine sf_iastR Iw140 sw140 rfl (by omega) (by omega) rfl (fun w9 h1 h2 => sf_R_ln Iw140 h1 h2 (by have r3 := (sf_R3 Iw140 (d := a_l1) (by omega)).2; rw [sf_ma sw140 (p := 40) rfl] at r3; have r4 := r3 (by omega); omega)) (fun w148 Iw148 sw148 kw148 uw148 => ?_)
                              have c149 := sf_ma kw148 (p := 42) rfl
                              have c150 := sf_ma kw148 (p := 43) rfl
                              have c151 := sf_ma kw148 (p := 44) rfl
                              have c152 := sf_ma kw148 (p := 47) rfl
                              clear kw148
                              have uL := uw148
                              rw [c141, c135, c129, c124, c119, c114] at uL
                              have vL : v147.toInt = (sf_a w0 38 a_l1.toInt.toNat).toInt + 1 := by omega
                              refine sf_iload rfl ?_
                              refine sf_ireturn rfl rfl ?_
                              refine sf_ireturn rfl rfl ?_
                              refine sf_i2l (fun v153 ev153 => ?_)
                              refine sf_last Iw148 sw148 rfl (by omega) rfl rfl (fun w154 Iw154 sw154 kw154 uw154 => ?_)
                              have c155 := sf_ma kw154 (p := 38) rfl
                              have c156 := sf_ma kw154 (p := 42) rfl
                              have c157 := sf_ma kw154 (p := 43) rfl
                              have c158 := sf_ma kw154 (p := 44) rfl
                              have c159 := sf_ma kw154 (p := 47) rfl
                              clear kw154
                              have go : (sf_l w154 130 0).toInt = v153.toInt := by rw [uw154, show z1.toInt.toNat = 0 by omega]; unfold vp_updL; rw [if_pos rfl]
                              refine sf_iconst sf_c0 (fun z160 ez160 => ?_)
                              refine sf_ireturn rfl rfl ?_
                              exact hR _ _ Iw154 sw154 (by omega) (by omega) (by first | (refine Or.inl ⟨by omega, ?_⟩; omega) | (refine Or.inr (Or.inl ⟨by omega, ?_⟩); omega) | (refine Or.inr (Or.inr ⟨by omega, ?_⟩); omega)) (by rw [c156, c149, c142, c136, c130, c125, c120]; first | exact Or.inl ⟨by omega, rfl⟩ | exact Or.inr ⟨by omega, u42⟩) (by rw [c157, c150, c143, c137, c131, c126]; first | exact Or.inl ⟨by omega, rfl⟩ | exact Or.inr ⟨by omega, u43⟩) (by rw [c158, c151, c144, c138, c132]; first | exact Or.inl ⟨by omega, rfl⟩ | exact Or.inr ⟨by omega, u44⟩) (by rw [c159, c152]; first | exact Or.inl ⟨by omega, rfl⟩ | exact Or.inr ⟨by omega, u47⟩) (by rw [c155]; exact Or.inr ⟨by omega, _, vL, uL⟩)
                          · refine sf_iconst sf_c0 (fun z161 ez161 => ?_)
                            refine sf_call1 rfl rfl rfl ?_
                            refine sf_sp (L := [(0, .inl (.int z161))]) rfl rfl ?_
                            refine sf_iload rfl ?_
                            refine sf_f1_eq (fun h162 => ?_) (fun h162 => absurd h162 (by omega))
                            refine sf_throw rfl rfl ?_
                            refine sf_xout rfl rfl ?_
                            refine sf_xhm rfl ?_
                            refine sf_xhh (L' := [(0, .inl (.ref 0)), (1, .inl (.int a_l1)), (2, .inl (.int a_l2)), (3, .inl (.int a_l3)), (4, .inl (.int a_l4)), (5, .inl (.int a_l5)), (6, .inl (.int a_l6)), (7, .inl (.int a_l7)), (8, .inl (.ref 130))]) rfl rfl ?_
                            refine sf_iconst sf_c2 (fun z163 ez163 => ?_)
                            refine sf_ireturn rfl rfl ?_
                            exact hR _ _ hI0 hs0 (by omega) (by omega) (by first | (refine Or.inl ⟨by omega, ?_⟩; omega) | (refine Or.inr (Or.inl ⟨by omega, ?_⟩); omega) | (refine Or.inr (Or.inr ⟨by omega, ?_⟩); omega)) (by first | exact Or.inl ⟨by omega, rfl⟩ | exact Or.inr ⟨by omega, u42⟩) (by first | exact Or.inl ⟨by omega, rfl⟩ | exact Or.inr ⟨by omega, u43⟩) (by first | exact Or.inl ⟨by omega, rfl⟩ | exact Or.inr ⟨by omega, u44⟩) (by first | exact Or.inl ⟨by omega, rfl⟩ | exact Or.inr ⟨by omega, u47⟩) (by exact Or.inl ⟨by omega, rfl⟩)
def sm_W_charge_0 : List Nat := [39]
set_option maxRecDepth 100000 in
set_option maxHeartbeats 4000000 in
theorem sc_W_charge_0 {w0 : wq_W} (hI0 : sf_I w0) {rt : Option wq_V → wq_W → Prop} {xt : Nat → wq_W → Prop} {a_l1 : Int32} {a_l2 : Int32} {a_l3 : Int32}  (hR : ∀ (r : Int32) (w : wq_W), sf_I w → sf_m sm_W_charge_0 w0 w → 0 ≤ r.toInt → r.toInt ≤ 2 → (((r.toInt = 0 ∧ (0 ≤ a_l1.toInt ∧ a_l1.toInt < (sf_f w0 35 0).toInt ∧ 0 ≤ a_l2.toInt ∧ a_l2.toInt ≤ 1 ∧ 0 ≤ a_l3.toInt ∧ a_l3.toInt ≤ 10000000) ∧ ((sf_a w0 40 a_l1.toInt.toNat).toInt = 0) ∧ a_l1.toInt = a_l1.toInt) ∨ (r.toInt = 1 ∧ ¬ (0 ≤ a_l1.toInt ∧ a_l1.toInt < (sf_f w0 35 0).toInt ∧ 0 ≤ a_l2.toInt ∧ a_l2.toInt ≤ 1 ∧ 0 ≤ a_l3.toInt ∧ a_l3.toInt ≤ 10000000)) ∨ (r.toInt = 2 ∧ (0 ≤ a_l1.toInt ∧ a_l1.toInt < (sf_f w0 35 0).toInt ∧ 0 ≤ a_l2.toInt ∧ a_l2.toInt ≤ 1 ∧ 0 ≤ a_l3.toInt ∧ a_l3.toInt ≤ 10000000) ∧ ¬ ((sf_a w0 40 a_l1.toInt.toNat).toInt = 0)))) → rt (some (.inl (.int r))) w) : ks_W_charge [.inl (.ref 0), .inl (.int a_l1), .inl (.int a_l2), .inl (.int a_l3)] w0 rt xt := by
  have hs0 : sf_m sm_W_charge_0 w0 w0 := sf_m0
  refine sf_sp (L := [(0, .inl (.ref 0)), (1, .inl (.int a_l1)), (2, .inl (.int a_l2)), (3, .inl (.int a_l3))]) rfl rfl ?_
  refine sf_aload rfl ?_
  refine sf_iload rfl ?_
  refine sf_iload rfl ?_
  refine sf_iload rfl ?_
  refine sf_call4 rfl rfl rfl ?_
  refine sf_rv hI0 rfl ?_
  refine sf_sp (L := [(0, .inl (.ref 0)), (1, .inl (.int a_l1)), (2, .inl (.int a_l2)), (3, .inl (.int a_l3))]) rfl rfl ?_
  refine sf_aload rfl ?_
  refine sf_iload rfl ?_
  refine sf_call2 rfl rfl rfl ?_
  refine sf_rv hI0 rfl ?_
  refine sf_sp (L := [(0, .inl (.ref 0)), (1, .inl (.int a_l1))]) rfl rfl ?_
  refine sf_iload rfl ?_
  refine sf_aload rfl ?_
  refine sf_getr hI0 rfl rfl ?_
  refine sf_geti hI0 rfl rfl (fun v1 lv1 uv1 ev1 => ?_)
  refine sf_call2 rfl rfl rfl ?_
  refine sf_sp (L := [(0, .inl (.int a_l1)), (1, .inl (.int v1))]) rfl rfl ?_
  refine sf_iconst sf_c0 (fun z2 ez2 => ?_)
  refine sf_iload rfl ?_
  refine sf_f2_gt (fun h3 => ?_) (fun h3 => ?_)
  · refine sf_iconst sf_c0 (fun z4 ez4 => ?_)
    refine sf_zreturn (by omega) rfl rfl ?_
    refine sf_zreturn (by omega) rfl rfl ?_
    refine sf_call1 rfl rfl rfl ?_
    refine sf_sp (L := [(0, .inl (.int z4))]) rfl rfl ?_
    refine sf_iload rfl ?_
    refine sf_f1_eq (fun h5 => ?_) (fun h5 => absurd h5 (by omega))
    refine sf_throw rfl rfl ?_
    refine sf_xout rfl rfl ?_
    refine sf_xhh (L' := [(0, .inl (.ref 0)), (1, .inl (.int a_l1)), (2, .inl (.int a_l2)), (3, .inl (.int a_l3))]) rfl rfl ?_
    refine sf_iconst sf_c1 (fun z6 ez6 => ?_)
    refine sf_ireturn rfl rfl ?_
    exact hR _ _ hI0 hs0 (by omega) (by omega) (by first | (refine Or.inl ⟨by omega, ?_⟩; omega) | (refine Or.inr (Or.inl ⟨by omega, ?_⟩); omega) | (refine Or.inr (Or.inr ⟨by omega, ?_⟩); omega))
  · refine sf_iload rfl ?_
    refine sf_iload rfl ?_
    refine sf_f2_ge (fun h7 => ?_) (fun h7 => ?_)
    · refine sf_iconst sf_c0 (fun z8 ez8 => ?_)
      refine sf_zreturn (by omega) rfl rfl ?_
      refine sf_zreturn (by omega) rfl rfl ?_
      refine sf_call1 rfl rfl rfl ?_
      refine sf_sp (L := [(0, .inl (.int z8))]) rfl rfl ?_
      refine sf_iload rfl ?_
      refine sf_f1_eq (fun h9 => ?_) (fun h9 => absurd h9 (by omega))
      refine sf_throw rfl rfl ?_
      refine sf_xout rfl rfl ?_
      refine sf_xhh (L' := [(0, .inl (.ref 0)), (1, .inl (.int a_l1)), (2, .inl (.int a_l2)), (3, .inl (.int a_l3))]) rfl rfl ?_
      refine sf_iconst sf_c1 (fun z10 ez10 => ?_)
      refine sf_ireturn rfl rfl ?_
      exact hR _ _ hI0 hs0 (by omega) (by omega) (by first | (refine Or.inl ⟨by omega, ?_⟩; omega) | (refine Or.inr (Or.inl ⟨by omega, ?_⟩); omega) | (refine Or.inr (Or.inr ⟨by omega, ?_⟩); omega))
    · refine sf_iconst sf_c1 (fun z11 ez11 => ?_)
      refine sf_zreturn (by omega) rfl rfl ?_
      refine sf_zreturn (by omega) rfl rfl ?_
      refine sf_call1 rfl rfl rfl ?_
      refine sf_sp (L := [(0, .inl (.int z11))]) rfl rfl ?_
      refine sf_iload rfl ?_
      refine sf_f1_eq (fun h12 => absurd h12 (by omega)) (fun h12 => ?_)
      refine sf_vreturn rfl rfl ?_
      refine sf_iload rfl ?_
      refine sf_iconst sf_c2 (fun z13 ez13 => ?_)
      refine sf_call2 rfl rfl rfl ?_
      refine sf_sp (L := [(0, .inl (.int a_l2)), (1, .inl (.int z13))]) rfl rfl ?_
      refine sf_iconst sf_c0 (fun z14 ez14 => ?_)
      refine sf_iload rfl ?_
      refine sf_f2_gt (fun h15 => ?_) (fun h15 => ?_)
      · refine sf_iconst sf_c0 (fun z16 ez16 => ?_)
        refine sf_zreturn (by omega) rfl rfl ?_
        refine sf_call1 rfl rfl rfl ?_
        refine sf_sp (L := [(0, .inl (.int z16))]) rfl rfl ?_
        refine sf_iload rfl ?_
        refine sf_f1_eq (fun h17 => ?_) (fun h17 => absurd h17 (by omega))
        refine sf_throw rfl rfl ?_
        refine sf_xout rfl rfl ?_
        refine sf_xhh (L' := [(0, .inl (.ref 0)), (1, .inl (.int a_l1)), (2, .inl (.int a_l2)), (3, .inl (.int a_l3))]) rfl rfl ?_
        refine sf_iconst sf_c1 (fun z18 ez18 => ?_)
        refine sf_ireturn rfl rfl ?_
        exact hR _ _ hI0 hs0 (by omega) (by omega) (by first | (refine Or.inl ⟨by omega, ?_⟩; omega) | (refine Or.inr (Or.inl ⟨by omega, ?_⟩); omega) | (refine Or.inr (Or.inr ⟨by omega, ?_⟩); omega))
      · refine sf_iload rfl ?_
        refine sf_iload rfl ?_
        refine sf_f2_ge (fun h19 => ?_) (fun h19 => ?_)
        · refine sf_iconst sf_c0 (fun z20 ez20 => ?_)
          refine sf_zreturn (by omega) rfl rfl ?_
          refine sf_call1 rfl rfl rfl ?_
          refine sf_sp (L := [(0, .inl (.int z20))]) rfl rfl ?_
          refine sf_iload rfl ?_
          refine sf_f1_eq (fun h21 => ?_) (fun h21 => absurd h21 (by omega))
          refine sf_throw rfl rfl ?_
          refine sf_xout rfl rfl ?_
          refine sf_xhh (L' := [(0, .inl (.ref 0)), (1, .inl (.int a_l1)), (2, .inl (.int a_l2)), (3, .inl (.int a_l3))]) rfl rfl ?_
          refine sf_iconst sf_c1 (fun z22 ez22 => ?_)
          refine sf_ireturn rfl rfl ?_
          exact hR _ _ hI0 hs0 (by omega) (by omega) (by first | (refine Or.inl ⟨by omega, ?_⟩; omega) | (refine Or.inr (Or.inl ⟨by omega, ?_⟩); omega) | (refine Or.inr (Or.inr ⟨by omega, ?_⟩); omega))
        · refine sf_iconst sf_c1 (fun z23 ez23 => ?_)
          refine sf_zreturn (by omega) rfl rfl ?_
          refine sf_call1 rfl rfl rfl ?_
          refine sf_sp (L := [(0, .inl (.int z23))]) rfl rfl ?_
          refine sf_iload rfl ?_
          refine sf_f1_eq (fun h24 => absurd h24 (by omega)) (fun h24 => ?_)
          refine sf_vreturn rfl rfl ?_
          refine sf_iload rfl ?_
          refine sf_iconst sf_c0 (fun z25 ez25 => ?_)
          refine sf_iconst sf_cl10000000 (fun z26 ez26 => ?_)
          refine sf_call3 rfl rfl rfl ?_
          refine sf_sp (L := [(0, .inl (.int a_l3)), (1, .inl (.int z25)), (2, .inl (.int z26))]) rfl rfl ?_
          refine sf_iload rfl ?_
          refine sf_iload rfl ?_
          refine sf_f2_gt (fun h27 => ?_) (fun h27 => ?_)
          · refine sf_iconst sf_c0 (fun z28 ez28 => ?_)
            refine sf_zreturn (by omega) rfl rfl ?_
            refine sf_call1 rfl rfl rfl ?_
            refine sf_sp (L := [(0, .inl (.int z28))]) rfl rfl ?_
            refine sf_iload rfl ?_
            refine sf_f1_eq (fun h29 => ?_) (fun h29 => absurd h29 (by omega))
            refine sf_throw rfl rfl ?_
            refine sf_xout rfl rfl ?_
            refine sf_xhh (L' := [(0, .inl (.ref 0)), (1, .inl (.int a_l1)), (2, .inl (.int a_l2)), (3, .inl (.int a_l3))]) rfl rfl ?_
            refine sf_iconst sf_c1 (fun z30 ez30 => ?_)
            refine sf_ireturn rfl rfl ?_
            exact hR _ _ hI0 hs0 (by omega) (by omega) (by first | (refine Or.inl ⟨by omega, ?_⟩; omega) | (refine Or.inr (Or.inl ⟨by omega, ?_⟩); omega) | (refine Or.inr (Or.inr ⟨by omega, ?_⟩); omega))
          · refine sf_iload rfl ?_
            refine sf_iload rfl ?_
            refine sf_f2_gt (fun h31 => ?_) (fun h31 => ?_)
            · refine sf_iconst sf_c0 (fun z32 ez32 => ?_)
              refine sf_zreturn (by omega) rfl rfl ?_
              refine sf_call1 rfl rfl rfl ?_
              refine sf_sp (L := [(0, .inl (.int z32))]) rfl rfl ?_
              refine sf_iload rfl ?_
              refine sf_f1_eq (fun h33 => ?_) (fun h33 => absurd h33 (by omega))
              refine sf_throw rfl rfl ?_
              refine sf_xout rfl rfl ?_
              refine sf_xhh (L' := [(0, .inl (.ref 0)), (1, .inl (.int a_l1)), (2, .inl (.int a_l2)), (3, .inl (.int a_l3))]) rfl rfl ?_
              refine sf_iconst sf_c1 (fun z34 ez34 => ?_)
              refine sf_ireturn rfl rfl ?_
              exact hR _ _ hI0 hs0 (by omega) (by omega) (by first | (refine Or.inl ⟨by omega, ?_⟩; omega) | (refine Or.inr (Or.inl ⟨by omega, ?_⟩); omega) | (refine Or.inr (Or.inr ⟨by omega, ?_⟩); omega))
            · refine sf_iconst sf_c1 (fun z35 ez35 => ?_)
              refine sf_zreturn (by omega) rfl rfl ?_
              refine sf_call1 rfl rfl rfl ?_
              refine sf_sp (L := [(0, .inl (.int z35))]) rfl rfl ?_
              refine sf_iload rfl ?_
              refine sf_f1_eq (fun h36 => absurd h36 (by omega)) (fun h36 => ?_)
              refine sf_vreturn rfl rfl ?_
              refine sf_aload rfl ?_
              refine sf_getr hI0 rfl rfl ?_
              refine sf_getr hI0 rfl rfl ?_
              refine sf_iload rfl ?_
              refine sf_zald hI0 rfl (by omega) (fun v37 lv37 uv37 ev37 => ?_)
              refine sf_f1_eq (fun h38 => ?_) (fun h38 => ?_)
              · refine sf_iconst sf_c1 (fun z39 ez39 => ?_)
                refine sf_call1 rfl rfl rfl ?_
                refine sf_sp (L := [(0, .inl (.int z39))]) rfl rfl ?_
                refine sf_iload rfl ?_
                refine sf_f1_eq (fun h40 => absurd h40 (by omega)) (fun h40 => ?_)
                refine sf_vreturn rfl rfl ?_
                refine sf_aload rfl ?_
                refine sf_getr hI0 rfl rfl ?_
                refine sf_getr hI0 rfl rfl ?_
                refine sf_iload rfl ?_
                refine sf_aald hI0 rfl (by omega) ?_
                refine sf_iload rfl ?_
                refine sf_iload rfl ?_
                refine sf_gast hI0 hs0 rfl (by omega) (by omega) (sf_bd _) rfl rfl (fun w41 Iw41 sw41 kw41 uw41 => ?_)
                clear kw41 uw41
                refine sf_vreturn rfl rfl ?_
                refine sf_iconst sf_c0 (fun z42 ez42 => ?_)
                refine sf_ireturn rfl rfl ?_
                exact hR _ _ Iw41 sw41 (by omega) (by omega) (by first | (refine Or.inl ⟨by omega, ?_⟩; omega) | (refine Or.inr (Or.inl ⟨by omega, ?_⟩); omega) | (refine Or.inr (Or.inr ⟨by omega, ?_⟩); omega))
              · refine sf_iconst sf_c0 (fun z43 ez43 => ?_)
                refine sf_call1 rfl rfl rfl ?_
                refine sf_sp (L := [(0, .inl (.int z43))]) rfl rfl ?_
                refine sf_iload rfl ?_
                refine sf_f1_eq (fun h44 => ?_) (fun h44 => absurd h44 (by omega))
                refine sf_throw rfl rfl ?_
                refine sf_xout rfl rfl ?_
                refine sf_xhm rfl ?_
                refine sf_xhh (L' := [(0, .inl (.ref 0)), (1, .inl (.int a_l1)), (2, .inl (.int a_l2)), (3, .inl (.int a_l3))]) rfl rfl ?_
                refine sf_iconst sf_c2 (fun z45 ez45 => ?_)
                refine sf_ireturn rfl rfl ?_
                exact hR _ _ hI0 hs0 (by omega) (by omega) (by first | (refine Or.inl ⟨by omega, ?_⟩; omega) | (refine Or.inr (Or.inl ⟨by omega, ?_⟩); omega) | (refine Or.inr (Or.inr ⟨by omega, ?_⟩); omega))
def sm_W_lineOf_0_130 : List Nat := [11, 12, 52, 53, 54, 55, 56, 57, 58, 59, 130]
set_option maxRecDepth 100000 in
set_option maxHeartbeats 4000000 in
theorem sc_W_lineOf_0_130 {w0 : wq_W} (hI0 : sf_I w0) {rt : Option wq_V → wq_W → Prop} {xt : Nat → wq_W → Prop} {a_l1 : Int32} {a_l2 : Int32} {a_l3 : Int32}  (hR : ∀ (r : Int32) (w : wq_W), sf_I w → sf_m sm_W_lineOf_0_130 w0 w → 0 ≤ r.toInt → r.toInt ≤ 2 → rt (some (.inl (.int r))) w) : ks_W_lineOf [.inl (.ref 0), .inl (.int a_l1), .inl (.int a_l2), .inl (.int a_l3), .inl (.ref 130)] w0 rt xt := by
  have hs0 : sf_m sm_W_lineOf_0_130 w0 w0 := sf_m0
  refine sf_sp (L := [(0, .inl (.ref 0)), (1, .inl (.int a_l1)), (2, .inl (.int a_l2)), (3, .inl (.int a_l3)), (4, .inl (.ref 130))]) rfl rfl ?_
  refine sf_aload rfl ?_
  refine sf_iconst sf_c0 (fun z1 ez1 => ?_)
  refine sf_aload rfl ?_
  refine sf_iload rfl ?_
  refine sf_iload rfl ?_
  refine sf_iload rfl ?_
  refine sf_call4 rfl rfl rfl ?_
  refine sf_rv hI0 rfl ?_
  refine sf_sp (L := [(0, .inl (.ref 0)), (1, .inl (.int a_l1)), (2, .inl (.int a_l2)), (3, .inl (.int a_l3))]) rfl rfl ?_
  refine sf_aload rfl ?_
  refine sf_iload rfl ?_
  refine sf_iload rfl ?_
  refine sf_call3 rfl rfl rfl ?_
  refine sf_rv hI0 rfl ?_
  refine sf_sp (L := [(0, .inl (.ref 0)), (1, .inl (.int a_l1)), (2, .inl (.int a_l2))]) rfl rfl ?_
  refine sf_aload rfl ?_
  refine sf_iload rfl ?_
  refine sf_call2 rfl rfl rfl ?_
  refine sf_rv hI0 rfl ?_
  refine sf_sp (L := [(0, .inl (.ref 0)), (1, .inl (.int a_l1))]) rfl rfl ?_
  refine sf_iload rfl ?_
  refine sf_aload rfl ?_
  refine sf_getr hI0 rfl rfl ?_
  refine sf_geti hI0 rfl rfl (fun v2 lv2 uv2 ev2 => ?_)
  refine sf_call2 rfl rfl rfl ?_
  refine sf_sp (L := [(0, .inl (.int a_l1)), (1, .inl (.int v2))]) rfl rfl ?_
  refine sf_iconst sf_c0 (fun z3 ez3 => ?_)
  refine sf_iload rfl ?_
  refine sf_f2_gt (fun h4 => ?_) (fun h4 => ?_)
  · refine sf_iconst sf_c0 (fun z5 ez5 => ?_)
    refine sf_zreturn (by omega) rfl rfl ?_
    refine sf_zreturn (by omega) rfl rfl ?_
    refine sf_f1_eq (fun h6 => ?_) (fun h6 => absurd h6 (by omega))
    refine sf_iconst sf_c0 (fun z7 ez7 => ?_)
    refine sf_zreturn (by omega) rfl rfl ?_
    refine sf_call1 rfl rfl rfl ?_
    refine sf_sp (L := [(0, .inl (.int z7))]) rfl rfl ?_
    refine sf_iload rfl ?_
    refine sf_f1_eq (fun h8 => ?_) (fun h8 => absurd h8 (by omega))
    refine sf_throw rfl rfl ?_
    refine sf_xout rfl rfl ?_
    refine sf_xhh (L' := [(0, .inl (.ref 0)), (1, .inl (.int a_l1)), (2, .inl (.int a_l2)), (3, .inl (.int a_l3)), (4, .inl (.ref 130))]) rfl rfl ?_
    refine sf_iconst sf_c1 (fun z9 ez9 => ?_)
    refine sf_ireturn rfl rfl ?_
    exact hR _ _ hI0 hs0 (by omega) (by omega) 
  · refine sf_iload rfl ?_
    refine sf_iload rfl ?_
    refine sf_f2_ge (fun h10 => ?_) (fun h10 => ?_)
    · refine sf_iconst sf_c0 (fun z11 ez11 => ?_)
      refine sf_zreturn (by omega) rfl rfl ?_
      refine sf_zreturn (by omega) rfl rfl ?_
      refine sf_f1_eq (fun h12 => ?_) (fun h12 => absurd h12 (by omega))
      refine sf_iconst sf_c0 (fun z13 ez13 => ?_)
      refine sf_zreturn (by omega) rfl rfl ?_
      refine sf_call1 rfl rfl rfl ?_
      refine sf_sp (L := [(0, .inl (.int z13))]) rfl rfl ?_
      refine sf_iload rfl ?_
      refine sf_f1_eq (fun h14 => ?_) (fun h14 => absurd h14 (by omega))
      refine sf_throw rfl rfl ?_
      refine sf_xout rfl rfl ?_
      refine sf_xhh (L' := [(0, .inl (.ref 0)), (1, .inl (.int a_l1)), (2, .inl (.int a_l2)), (3, .inl (.int a_l3)), (4, .inl (.ref 130))]) rfl rfl ?_
      refine sf_iconst sf_c1 (fun z15 ez15 => ?_)
      refine sf_ireturn rfl rfl ?_
      exact hR _ _ hI0 hs0 (by omega) (by omega) 
    · refine sf_iconst sf_c1 (fun z16 ez16 => ?_)
      refine sf_zreturn (by omega) rfl rfl ?_
      refine sf_zreturn (by omega) rfl rfl ?_
      refine sf_f1_eq (fun h17 => absurd h17 (by omega)) (fun h17 => ?_)
      refine sf_iload rfl ?_
      refine sf_aload rfl ?_
      refine sf_getr hI0 rfl rfl ?_
      refine sf_getr hI0 rfl rfl ?_
      refine sf_iload rfl ?_
      refine sf_iald hI0 rfl (by omega) (fun v18 lv18 uv18 ev18 => ?_)
      refine sf_call2 rfl rfl rfl ?_
      refine sf_sp (L := [(0, .inl (.int a_l2)), (1, .inl (.int v18))]) rfl rfl ?_
      refine sf_iconst sf_c0 (fun z19 ez19 => ?_)
      refine sf_iload rfl ?_
      refine sf_f2_gt (fun h20 => ?_) (fun h20 => ?_)
      · refine sf_iconst sf_c0 (fun z21 ez21 => ?_)
        refine sf_zreturn (by omega) rfl rfl ?_
        refine sf_f1_eq (fun h22 => ?_) (fun h22 => absurd h22 (by omega))
        refine sf_iconst sf_c0 (fun z23 ez23 => ?_)
        refine sf_zreturn (by omega) rfl rfl ?_
        refine sf_call1 rfl rfl rfl ?_
        refine sf_sp (L := [(0, .inl (.int z23))]) rfl rfl ?_
        refine sf_iload rfl ?_
        refine sf_f1_eq (fun h24 => ?_) (fun h24 => absurd h24 (by omega))
        refine sf_throw rfl rfl ?_
        refine sf_xout rfl rfl ?_
        refine sf_xhh (L' := [(0, .inl (.ref 0)), (1, .inl (.int a_l1)), (2, .inl (.int a_l2)), (3, .inl (.int a_l3)), (4, .inl (.ref 130))]) rfl rfl ?_
        refine sf_iconst sf_c1 (fun z25 ez25 => ?_)
        refine sf_ireturn rfl rfl ?_
        exact hR _ _ hI0 hs0 (by omega) (by omega) 
      · refine sf_iload rfl ?_
        refine sf_iload rfl ?_
        refine sf_f2_ge (fun h26 => ?_) (fun h26 => ?_)
        · refine sf_iconst sf_c0 (fun z27 ez27 => ?_)
          refine sf_zreturn (by omega) rfl rfl ?_
          refine sf_f1_eq (fun h28 => ?_) (fun h28 => absurd h28 (by omega))
          refine sf_iconst sf_c0 (fun z29 ez29 => ?_)
          refine sf_zreturn (by omega) rfl rfl ?_
          refine sf_call1 rfl rfl rfl ?_
          refine sf_sp (L := [(0, .inl (.int z29))]) rfl rfl ?_
          refine sf_iload rfl ?_
          refine sf_f1_eq (fun h30 => ?_) (fun h30 => absurd h30 (by omega))
          refine sf_throw rfl rfl ?_
          refine sf_xout rfl rfl ?_
          refine sf_xhh (L' := [(0, .inl (.ref 0)), (1, .inl (.int a_l1)), (2, .inl (.int a_l2)), (3, .inl (.int a_l3)), (4, .inl (.ref 130))]) rfl rfl ?_
          refine sf_iconst sf_c1 (fun z31 ez31 => ?_)
          refine sf_ireturn rfl rfl ?_
          exact hR _ _ hI0 hs0 (by omega) (by omega) 
        · refine sf_iconst sf_c1 (fun z32 ez32 => ?_)
          refine sf_zreturn (by omega) rfl rfl ?_
          refine sf_f1_eq (fun h33 => absurd h33 (by omega)) (fun h33 => ?_)
          refine sf_iconst sf_c1 (fun z34 ez34 => ?_)
          refine sf_zreturn (by omega) rfl rfl ?_
          refine sf_call1 rfl rfl rfl ?_
          refine sf_sp (L := [(0, .inl (.int z34))]) rfl rfl ?_
          refine sf_iload rfl ?_
          refine sf_f1_eq (fun h35 => absurd h35 (by omega)) (fun h35 => ?_)
          refine sf_vreturn rfl rfl ?_
          refine sf_iload rfl ?_
          refine sf_iconst sf_c0 (fun z36 ez36 => ?_)
          refine sf_iconst sf_c2 (fun z37 ez37 => ?_)
          refine sf_call3 rfl rfl rfl ?_
          refine sf_sp (L := [(0, .inl (.int a_l3)), (1, .inl (.int z36)), (2, .inl (.int z37))]) rfl rfl ?_
          refine sf_iload rfl ?_
          refine sf_iload rfl ?_
          refine sf_f2_gt (fun h38 => ?_) (fun h38 => ?_)
          · refine sf_iconst sf_c0 (fun z39 ez39 => ?_)
            refine sf_zreturn (by omega) rfl rfl ?_
            refine sf_call1 rfl rfl rfl ?_
            refine sf_sp (L := [(0, .inl (.int z39))]) rfl rfl ?_
            refine sf_iload rfl ?_
            refine sf_f1_eq (fun h40 => ?_) (fun h40 => absurd h40 (by omega))
            refine sf_throw rfl rfl ?_
            refine sf_xout rfl rfl ?_
            refine sf_xhh (L' := [(0, .inl (.ref 0)), (1, .inl (.int a_l1)), (2, .inl (.int a_l2)), (3, .inl (.int a_l3)), (4, .inl (.ref 130))]) rfl rfl ?_
            refine sf_iconst sf_c1 (fun z41 ez41 => ?_)
            refine sf_ireturn rfl rfl ?_
            exact hR _ _ hI0 hs0 (by omega) (by omega) 
          · refine sf_iload rfl ?_
            refine sf_iload rfl ?_
            refine sf_f2_gt (fun h42 => ?_) (fun h42 => ?_)
            · refine sf_iconst sf_c0 (fun z43 ez43 => ?_)
              refine sf_zreturn (by omega) rfl rfl ?_
              refine sf_call1 rfl rfl rfl ?_
              refine sf_sp (L := [(0, .inl (.int z43))]) rfl rfl ?_
              refine sf_iload rfl ?_
              refine sf_f1_eq (fun h44 => ?_) (fun h44 => absurd h44 (by omega))
              refine sf_throw rfl rfl ?_
              refine sf_xout rfl rfl ?_
              refine sf_xhh (L' := [(0, .inl (.ref 0)), (1, .inl (.int a_l1)), (2, .inl (.int a_l2)), (3, .inl (.int a_l3)), (4, .inl (.ref 130))]) rfl rfl ?_
              refine sf_iconst sf_c1 (fun z45 ez45 => ?_)
              refine sf_ireturn rfl rfl ?_
              exact hR _ _ hI0 hs0 (by omega) (by omega) 
            · refine sf_iconst sf_c1 (fun z46 ez46 => ?_)
              refine sf_zreturn (by omega) rfl rfl ?_
              refine sf_call1 rfl rfl rfl ?_
              refine sf_sp (L := [(0, .inl (.int z46))]) rfl rfl ?_
              refine sf_iload rfl ?_
              refine sf_f1_eq (fun h47 => absurd h47 (by omega)) (fun h47 => ?_)
              refine sf_vreturn rfl rfl ?_
              refine sf_iload rfl ?_
              refine sf_f1_eq (fun h48 => ?_) (fun h48 => ?_)
              · refine sf_aload rfl ?_
                refine sf_getr hI0 rfl rfl ?_
                refine sf_iload rfl ?_
                refine sf_iload rfl ?_
                refine sf_call3 rfl rfl rfl ?_
                refine sf_rv hI0 rfl ?_
                refine sf_sp (L := [(0, .inl (.ref 51)), (1, .inl (.int a_l1)), (2, .inl (.int a_l2))]) rfl rfl ?_
                refine sf_aload rfl ?_
                refine sf_iload rfl ?_
                refine sf_call2 rfl rfl rfl ?_
                refine sf_rv hI0 rfl ?_
                refine sc_A_findValues hI0 (by omega) (by omega) (fun w49 Iw49 tw49 => ?_)
                have s51 := sf_mt hs0 tw49 rfl
                have c52 := sf_ma tw49 (p := 55) rfl
                refine sf_aload rfl ?_
                refine sf_getr Iw49 rfl rfl ?_
                refine sf_iload rfl ?_
                refine sf_lald Iw49 rfl (by omega) (fun v53 ev53 => ?_)
                clear ev53
                refine sf_lreturn rfl rfl ?_
                refine sf_lreturn rfl rfl ?_
                refine sf_last Iw49 s51 rfl (by omega) rfl rfl (fun w54 Iw54 sw54 kw54 uw54 => ?_)
                have c55 := sf_ma kw54 (p := 55) rfl
                clear kw54 uw54
                refine sf_iconst sf_c0 (fun z56 ez56 => ?_)
                refine sf_ireturn rfl rfl ?_
                exact hR _ _ Iw54 sw54 (by omega) (by omega) 
              · refine sf_aload rfl ?_
                refine sf_getr hI0 rfl rfl ?_
                refine sf_getr hI0 rfl rfl ?_
                refine sf_iload rfl ?_
                refine sf_zald hI0 rfl (by omega) (fun v57 lv57 uv57 ev57 => ?_)
                refine sf_f1_eq (fun h58 => ?_) (fun h58 => ?_)
                · refine sf_aload rfl ?_
                  refine sf_getr hI0 rfl rfl ?_
                  refine sf_iload rfl ?_
                  refine sf_call2 rfl rfl rfl ?_
                  refine sf_rv hI0 rfl ?_
                  refine sc_A_canAssess hI0 (by omega) (by omega) (fun v59 w60 Iw60 tw60 ev59 => ?_) (fun v59 w60 Iw60 tw60 ev59 q61_0 => ?_)
                  · have s62 := sf_mt hs0 tw60 rfl
                    refine sf_call1 rfl rfl rfl ?_
                    refine sf_sp (L := [(0, .inl (.int v59))]) rfl rfl ?_
                    refine sf_iload rfl ?_
                    refine sf_f1_eq (fun h63 => ?_) (fun h63 => absurd h63 (by omega))
                    refine sf_throw rfl rfl ?_
                    refine sf_xout rfl rfl ?_
                    refine sf_xhm rfl ?_
                    refine sf_xhh (L' := [(0, .inl (.ref 0)), (1, .inl (.int a_l1)), (2, .inl (.int a_l2)), (3, .inl (.int a_l3)), (4, .inl (.ref 130))]) rfl rfl ?_
                    refine sf_iconst sf_c2 (fun z64 ez64 => ?_)
                    refine sf_ireturn rfl rfl ?_
                    exact hR _ _ Iw60 s62 (by omega) (by omega) 
                  · have s65 := sf_mt hs0 tw60 rfl
                    have r2 := q61_0
                    rw [sf_ma s65 (p := 38) rfl] at r2
                    refine sf_call1 rfl rfl rfl ?_
                    refine sf_sp (L := [(0, .inl (.int v59))]) rfl rfl ?_
                    refine sf_iload rfl ?_
                    refine sf_f1_eq (fun h66 => absurd h66 (by omega)) (fun h66 => ?_)
                    refine sf_vreturn rfl rfl ?_
                    refine sf_aload rfl ?_
                    refine sf_getr Iw60 rfl rfl ?_
                    refine sf_iload rfl ?_
                    refine sf_call2 rfl rfl rfl ?_
                    refine sf_rv Iw60 rfl ?_
                    refine sc_A_assess Iw60 (by omega) (by omega) (by rw [sf_ma s65 (p := 38) rfl]; exact r2) (fun w67 Iw67 tw67 => ?_)
                    have s69 := sf_mt s65 tw67 rfl
                    have c70 := sf_ma tw67 (p := 55) rfl
                    refine sf_iload rfl ?_
                    refine sf_iconst sf_c1 (fun z71 ez71 => ?_)
                    refine sf_f2_eq (fun h72 => ?_) (fun h72 => ?_)
                    · refine sf_aload rfl ?_
                      refine sf_getr Iw67 rfl rfl ?_
                      refine sf_getr Iw67 rfl rfl ?_
                      refine sf_iload rfl ?_
                      refine sf_iald Iw67 rfl (by omega) (fun v73 lv73 uv73 ev73 => ?_)
                      clear lv73 uv73
                      clear ev73
                      refine sf_i2lb (fun v74 ev74 lv74 uv74 => ?_)
                      refine sf_lreturn rfl rfl ?_
                      refine sf_last Iw67 s69 rfl (by omega) rfl rfl (fun w75 Iw75 sw75 kw75 uw75 => ?_)
                      have c76 := sf_ma kw75 (p := 55) rfl
                      clear kw75 uw75
                      refine sf_iconst sf_c0 (fun z77 ez77 => ?_)
                      refine sf_ireturn rfl rfl ?_
                      exact hR _ _ Iw75 sw75 (by omega) (by omega) 
                    · refine sf_aload rfl ?_
                      refine sf_getr Iw67 rfl rfl ?_
                      refine sf_getr Iw67 rfl rfl ?_
                      refine sf_iload rfl ?_
                      refine sf_lald Iw67 rfl (by omega) (fun v78 ev78 => ?_)
                      clear ev78
                      refine sf_lreturn rfl rfl ?_
                      refine sf_last Iw67 s69 rfl (by omega) rfl rfl (fun w79 Iw79 sw79 kw79 uw79 => ?_)
                      have c80 := sf_ma kw79 (p := 55) rfl
                      clear kw79 uw79
                      refine sf_iconst sf_c0 (fun z81 ez81 => ?_)
                      refine sf_ireturn rfl rfl ?_
                      exact hR _ _ Iw79 sw79 (by omega) (by omega) 
                · refine sf_iload rfl ?_
                  refine sf_iload rfl ?_
                  refine sf_call2 rfl rfl rfl ?_
                  refine sf_sp (L := [(0, .inl (.int a_l1)), (1, .inl (.int a_l2))]) rfl rfl ?_
                  refine sf_iload rfl ?_
                  refine sf_iconst sf_c4 (fun z82 ez82 => ?_)
                  refine sf_imulr (n := 4) (by omega) (by omega) (fun v83 ev83 => ?_)
                  refine sf_iload rfl ?_
                  refine sf_iadd (by omega) (fun v84 ev84 => ?_)
                  refine sf_ireturn rfl rfl ?_
                  refine sf_istore (L' := [(0, .inl (.ref 0)), (1, .inl (.int a_l1)), (2, .inl (.int a_l2)), (3, .inl (.int a_l3))]) rfl ?_
                  refine sf_iload rfl ?_
                  refine sf_iconst sf_c1 (fun z85 ez85 => ?_)
                  refine sf_f2_eq (fun h86 => ?_) (fun h86 => ?_)
                  · refine sf_aload rfl ?_
                    refine sf_getr hI0 rfl rfl ?_
                    refine sf_getr hI0 rfl rfl ?_
                    refine sf_iload rfl ?_
                    refine sf_iald hI0 rfl (by omega) (fun v87 lv87 uv87 ev87 => ?_)
                    clear lv87 uv87
                    clear ev87
                    refine sf_i2lb (fun v88 ev88 lv88 uv88 => ?_)
                    refine sf_lreturn rfl rfl ?_
                    refine sf_last hI0 hs0 rfl (by omega) rfl rfl (fun w89 Iw89 sw89 kw89 uw89 => ?_)
                    have c90 := sf_ma kw89 (p := 55) rfl
                    clear kw89 uw89
                    refine sf_iconst sf_c0 (fun z91 ez91 => ?_)
                    refine sf_ireturn rfl rfl ?_
                    exact hR _ _ Iw89 sw89 (by omega) (by omega) 
                  · refine sf_aload rfl ?_
                    refine sf_getr hI0 rfl rfl ?_
                    refine sf_getr hI0 rfl rfl ?_
                    refine sf_iload rfl ?_
                    refine sf_lald hI0 rfl (by omega) (fun v92 ev92 => ?_)
                    clear ev92
                    refine sf_lreturn rfl rfl ?_
                    refine sf_last hI0 hs0 rfl (by omega) rfl rfl (fun w93 Iw93 sw93 kw93 uw93 => ?_)
                    have c94 := sf_ma kw93 (p := 55) rfl
                    clear kw93 uw93
                    refine sf_iconst sf_c0 (fun z95 ez95 => ?_)
                    refine sf_ireturn rfl rfl ?_
                    exact hR _ _ Iw93 sw93 (by omega) (by omega) 
def sm_W_accept_0_130 : List Nat := [11, 12, 22, 40, 41, 48, 49, 50, 52, 53, 54, 55, 56, 57, 58, 59, 60, 61, 62, 64, 65, 66, 67, 130, 7000, 7700]
set_option maxRecDepth 100000 in
set_option maxHeartbeats 4000000 in
theorem sc_W_accept_0_130 {w0 : wq_W} (hI0 : sf_I w0) {rt : Option wq_V → wq_W → Prop} {xt : Nat → wq_W → Prop} {a_l1 : Int32} (p0 : sf_J (sf_a w0 3) (sf_a w0 2) (sf_f w0 1 0).toInt) (hR : ∀ (r : Int32) (w : wq_W), sf_I w → sf_m sm_W_accept_0_130 w0 w → 0 ≤ r.toInt → r.toInt ≤ 4 → (sl_ca r.toInt (0 ≤ a_l1.toInt ∧ a_l1.toInt < (sf_f w0 35 0).toInt) ((sf_a w0 40 a_l1.toInt.toNat).toInt = 1) (sl_LA (sf_a w0 36) (sf_a w0 37) (sf_a w0 40) (sf_f w0 35 0).toInt a_l1.toInt.toNat) (sc_ok (sc_rc (sc_b (sf_a w0 2) (sf_a w0 6) (sf_a w0 7) (sf_a w0 8) (sf_a w0 9) (sf_a w0 3) (sp_ag (sf_g w0 10)) (sf_f w0 1 5).toInt (sf_f w0 1 0).toInt) (sf_a w0 2) (sf_a w0 14) (sf_a w0 15) (sf_a w0 19) (sf_a w0 20) (sf_f w0 13 1).toInt (sf_a w0 42) (sf_a w0 43) (sf_a w0 36 a_l1.toInt.toNat).toInt (4 * a_l1.toInt).toNat) (sf_a w0 38 a_l1.toInt.toNat).toInt) (40 < (sf_f w0 60 0).toInt + (sf_a w0 38 a_l1.toInt.toNat).toInt)) → (((r.toInt ≠ 0 ∧ (sf_f w 60 0) = (sf_f w0 60 0) ∧ sf_a w 61 = sf_a w0 61 ∧ sf_a w 62 = sf_a w0 62 ∧ sf_a w 65 = sf_a w0 65 ∧ sf_a w 66 = sf_a w0 66 ∧ sf_a w 41 = sf_a w0 41 ∧ sf_a w 40 = sf_a w0 40) ∨ (r.toInt = 0 ∧ (sf_f w 60 0).toInt = (sf_f w0 60 0).toInt + (sf_a w0 38 a_l1.toInt.toNat).toInt ∧ sf_a w 61 = sl_W (sf_a w0 61) (sl_ix (sf_f w0 60 0).toInt) (sl_sr (sf_a w0 42) (4 * a_l1.toInt).toNat) (sf_a w0 38 a_l1.toInt.toNat).toInt.toNat ∧ sf_a w 62 = sl_W (sf_a w0 62) (sl_ix (sf_f w0 60 0).toInt) (sl_sr (sf_a w0 44) (4 * a_l1.toInt).toNat) (sf_a w0 38 a_l1.toInt.toNat).toInt.toNat ∧ sf_a w 65 = sl_W (sf_a w0 65) (sl_ix (sf_f w0 60 0).toInt) (sl_sr (sf_a w0 47) (4 * a_l1.toInt).toNat) (sf_a w0 38 a_l1.toInt.toNat).toInt.toNat ∧ sf_a w 66 = sl_W (sf_a w0 66) (sl_ix (sf_f w0 60 0).toInt) (sl_kk 0) (sf_a w0 38 a_l1.toInt.toNat).toInt.toNat ∧ (∃ z : Int32, z.toInt = (sf_f w0 60 0).toInt ∧ sf_a w 41 = upd (sf_a w0 41) a_l1.toInt.toNat z) ∧ (∃ v : Int32, v.toInt = 1 ∧ sf_a w 40 = upd (sf_a w0 40) a_l1.toInt.toNat v)))) → rt (some (.inl (.int r))) w) : ks_W_accept [.inl (.ref 0), .inl (.int a_l1), .inl (.ref 130)] w0 rt xt := by
  have hs0 : sf_m sm_W_accept_0_130 w0 w0 := sf_m0
  refine sf_sp (L := [(0, .inl (.ref 0)), (1, .inl (.int a_l1)), (2, .inl (.ref 130))]) rfl rfl ?_
  refine sf_aload rfl ?_
  refine sf_iconst sf_c0 (fun z1 ez1 => ?_)
  refine sf_aload rfl ?_
  refine sf_iload rfl ?_
  refine sf_call2 rfl rfl rfl ?_
  refine sf_rv hI0 rfl ?_
  refine sf_sp (L := [(0, .inl (.ref 0)), (1, .inl (.int a_l1))]) rfl rfl ?_
  refine sf_aload rfl ?_
  refine sf_iload rfl ?_
  refine sf_call2 rfl rfl rfl ?_
  refine sf_rv hI0 rfl ?_
  refine sf_sp (L := [(0, .inl (.ref 0)), (1, .inl (.int a_l1))]) rfl rfl ?_
  refine sf_iload rfl ?_
  refine sf_aload rfl ?_
  refine sf_getr hI0 rfl rfl ?_
  refine sf_geti hI0 rfl rfl (fun v2 lv2 uv2 ev2 => ?_)
  refine sf_call2 rfl rfl rfl ?_
  refine sf_sp (L := [(0, .inl (.int a_l1)), (1, .inl (.int v2))]) rfl rfl ?_
  refine sf_iconst sf_c0 (fun z3 ez3 => ?_)
  refine sf_iload rfl ?_
  refine sf_f2_gt (fun h4 => ?_) (fun h4 => ?_)
  · refine sf_iconst sf_c0 (fun z5 ez5 => ?_)
    refine sf_zreturn (by omega) rfl rfl ?_
    refine sf_zreturn (by omega) rfl rfl ?_
    refine sf_call1 rfl rfl rfl ?_
    refine sf_sp (L := [(0, .inl (.int z5))]) rfl rfl ?_
    refine sf_iload rfl ?_
    refine sf_f1_eq (fun h6 => ?_) (fun h6 => absurd h6 (by omega))
    refine sf_throw rfl rfl ?_
    refine sf_xout rfl rfl ?_
    refine sf_xhh (L' := [(0, .inl (.ref 0)), (1, .inl (.int a_l1)), (2, .inl (.ref 130))]) rfl rfl ?_
    refine sf_iconst sf_c1 (fun z7 ez7 => ?_)
    refine sf_ireturn rfl rfl ?_
    exact hR _ _ hI0 hs0 (by omega) (by omega) (by exact Or.inl ⟨by omega, by omega⟩) (by exact Or.inl ⟨by omega, rfl, rfl, rfl, rfl, rfl, rfl, rfl⟩)
  · refine sf_iload rfl ?_
    refine sf_iload rfl ?_
    refine sf_f2_ge (fun h8 => ?_) (fun h8 => ?_)
    · refine sf_iconst sf_c0 (fun z9 ez9 => ?_)
      refine sf_zreturn (by omega) rfl rfl ?_
      refine sf_zreturn (by omega) rfl rfl ?_
      refine sf_call1 rfl rfl rfl ?_
      refine sf_sp (L := [(0, .inl (.int z9))]) rfl rfl ?_
      refine sf_iload rfl ?_
      refine sf_f1_eq (fun h10 => ?_) (fun h10 => absurd h10 (by omega))
      refine sf_throw rfl rfl ?_
      refine sf_xout rfl rfl ?_
      refine sf_xhh (L' := [(0, .inl (.ref 0)), (1, .inl (.int a_l1)), (2, .inl (.ref 130))]) rfl rfl ?_
      refine sf_iconst sf_c1 (fun z11 ez11 => ?_)
      refine sf_ireturn rfl rfl ?_
      exact hR _ _ hI0 hs0 (by omega) (by omega) (by exact Or.inl ⟨by omega, by omega⟩) (by exact Or.inl ⟨by omega, rfl, rfl, rfl, rfl, rfl, rfl, rfl⟩)
    · refine sf_iconst sf_c1 (fun z12 ez12 => ?_)
      refine sf_zreturn (by omega) rfl rfl ?_
      refine sf_zreturn (by omega) rfl rfl ?_
      refine sf_call1 rfl rfl rfl ?_
      refine sf_sp (L := [(0, .inl (.int z12))]) rfl rfl ?_
      refine sf_iload rfl ?_
      refine sf_f1_eq (fun h13 => absurd h13 (by omega)) (fun h13 => ?_)
      refine sf_vreturn rfl rfl ?_
      refine sf_aload rfl ?_
      refine sf_getr hI0 rfl rfl ?_
      refine sf_getr hI0 rfl rfl ?_
      refine sf_iload rfl ?_
      refine sf_zald hI0 rfl (by omega) (fun v14 lv14 uv14 ev14 => ?_)
      refine sf_f1_eq (fun h15 => ?_) (fun h15 => ?_)
      · refine sf_iconst sf_c1 (fun z16 ez16 => ?_)
        refine sf_call1 rfl rfl rfl ?_
        refine sf_sp (L := [(0, .inl (.int z16))]) rfl rfl ?_
        refine sf_iload rfl ?_
        refine sf_f1_eq (fun h17 => absurd h17 (by omega)) (fun h17 => ?_)
        refine sf_vreturn rfl rfl ?_
        refine sf_aload rfl ?_
        refine sf_getr hI0 rfl rfl ?_
        refine sf_iload rfl ?_
        refine sf_call2 rfl rfl rfl ?_
        refine sf_rv hI0 rfl ?_
        refine sc_D_isLaterAccepted hI0 (by omega) (by omega) (fun v18 lv18 uv18 q19_0 => ?_)
        have gla := q19_0
        refine sf_f1_eq (fun h20 => ?_) (fun h20 => ?_)
        · refine sf_iconst sf_c1 (fun z21 ez21 => ?_)
          refine sf_call1 rfl rfl rfl ?_
          refine sf_sp (L := [(0, .inl (.int z21))]) rfl rfl ?_
          refine sf_iload rfl ?_
          refine sf_f1_eq (fun h22 => absurd h22 (by omega)) (fun h22 => ?_)
          refine sf_vreturn rfl rfl ?_
          refine sf_aload rfl ?_
          refine sf_getr hI0 rfl rfl ?_
          refine sf_iload rfl ?_
          refine sf_call2 rfl rfl rfl ?_
          refine sf_rv hI0 rfl ?_
          refine sc_A_canAssess_K hI0 (by omega) (by omega) (by exact p0) (fun v23 w24 Iw24 tw24 ev23 q25_0 => ?_) (fun v23 w24 Iw24 tw24 ev23 q25_0 q25_1 => ?_)
          · have s26 := sf_mt hs0 tw24 rfl
            have c27 := sf_mf tw24 (p := 60) (j := 0) rfl
            have c28 := sf_ma tw24 (p := 61) rfl
            have c29 := sf_ma tw24 (p := 62) rfl
            have c30 := sf_ma tw24 (p := 65) rfl
            have c31 := sf_ma tw24 (p := 66) rfl
            have c32 := sf_ma tw24 (p := 41) rfl
            have c33 := sf_ma tw24 (p := 40) rfl
            have gca := q25_0
            refine sf_call1 rfl rfl rfl ?_
            refine sf_sp (L := [(0, .inl (.int v23))]) rfl rfl ?_
            refine sf_iload rfl ?_
            refine sf_f1_eq (fun h34 => ?_) (fun h34 => absurd h34 (by omega))
            refine sf_throw rfl rfl ?_
            refine sf_xout rfl rfl ?_
            refine sf_xhm rfl ?_
            refine sf_xhm rfl ?_
            refine sf_xhh (L' := [(0, .inl (.ref 0)), (1, .inl (.int a_l1)), (2, .inl (.ref 130))]) rfl rfl ?_
            refine sf_iconst sf_c3 (fun z35 ez35 => ?_)
            refine sf_ireturn rfl rfl ?_
            exact hR _ _ Iw24 s26 (by omega) (by omega) (by exact Or.inr (Or.inr (Or.inl ⟨by omega, by omega, by omega, (fun h => absurd (gla.mpr h) (by omega)), gca⟩))) (by rw [c27]; rw [c28]; rw [c29]; rw [c30]; rw [c31]; rw [c32]; rw [c33]; exact Or.inl ⟨by omega, rfl, rfl, rfl, rfl, rfl, rfl, rfl⟩)
          · have s36 := sf_mt hs0 tw24 rfl
            have c37 := sf_mf tw24 (p := 60) (j := 0) rfl
            have c38 := sf_ma tw24 (p := 61) rfl
            have c39 := sf_ma tw24 (p := 62) rfl
            have c40 := sf_ma tw24 (p := 65) rfl
            have c41 := sf_ma tw24 (p := 66) rfl
            have c42 := sf_ma tw24 (p := 41) rfl
            have c43 := sf_ma tw24 (p := 40) rfl
            have r2 := q25_0
            rw [sf_ma s36 (p := 38) rfl] at r2
            have gca := q25_1
            refine sf_call1 rfl rfl rfl ?_
            refine sf_sp (L := [(0, .inl (.int v23))]) rfl rfl ?_
            refine sf_iload rfl ?_
            refine sf_f1_eq (fun h44 => absurd h44 (by omega)) (fun h44 => ?_)
            refine sf_vreturn rfl rfl ?_
            refine sf_aload rfl ?_
            refine sf_getr Iw24 rfl rfl ?_
            refine sf_geti Iw24 rfl rfl (fun v45 lv45 uv45 ev45 => ?_)
            rw [c37] at ev45
            refine sf_aload rfl ?_
            refine sf_getr Iw24 rfl rfl ?_
            refine sf_getr Iw24 rfl rfl ?_
            refine sf_iload rfl ?_
            refine sf_iald Iw24 rfl (by omega) (fun v46 lv46 uv46 ev46 => ?_)
            rw [sf_ma s36 (p := 38) rfl] at ev46
            refine sf_iadd (by omega) (fun v47 ev47 => ?_)
            refine sf_call1 rfl rfl rfl ?_
            refine sf_sp (L := [(0, .inl (.int v47))]) rfl rfl ?_
            refine sf_iload rfl ?_
            refine sf_iconst sf_c40 (fun z48 ez48 => ?_)
            refine sf_f2_le (fun h49 => ?_) (fun h49 => ?_)
            · refine sf_vreturn rfl rfl ?_
              refine sf_aload rfl ?_
              refine sf_getr Iw24 rfl rfl ?_
              refine sf_iload rfl ?_
              refine sf_call2 rfl rfl rfl ?_
              refine sf_rv Iw24 rfl ?_
              refine sc_A_assess Iw24 (by omega) (by omega) (by rw [sf_ma s36 (p := 38) rfl]; exact r2) (fun w50 Iw50 tw50 => ?_)
              have s52 := sf_mt s36 tw50 rfl
              have c53 := sf_ma tw50 (p := 55) rfl
              have c54 := sf_mf tw50 (p := 60) (j := 0) rfl
              have c55 := sf_ma tw50 (p := 61) rfl
              have c56 := sf_ma tw50 (p := 62) rfl
              have c57 := sf_ma tw50 (p := 65) rfl
              have c58 := sf_ma tw50 (p := 66) rfl
              have c59 := sf_ma tw50 (p := 41) rfl
              have c60 := sf_ma tw50 (p := 40) rfl
              refine sf_aload rfl ?_
              refine sf_getr Iw50 rfl rfl ?_
              refine sf_iload rfl ?_
              refine sf_call2 rfl rfl rfl ?_
              refine sf_rv Iw50 rfl ?_
              refine sc_A_book Iw50 (by omega) (by omega) (fun w61 Iw61 tw61 => ?_)
              have s63 := sf_mt s52 tw61 rfl
              have c64 := sf_ma tw61 (p := 55) rfl
              have c65 := sf_mf tw61 (p := 60) (j := 0) rfl
              have c66 := sf_ma tw61 (p := 61) rfl
              have c67 := sf_ma tw61 (p := 62) rfl
              have c68 := sf_ma tw61 (p := 65) rfl
              have c69 := sf_ma tw61 (p := 66) rfl
              have c70 := sf_ma tw61 (p := 41) rfl
              have c71 := sf_ma tw61 (p := 40) rfl
              refine sf_aload rfl ?_
              refine sf_getr Iw61 rfl rfl ?_
              refine sf_getr Iw61 rfl rfl ?_
              refine sf_iload rfl ?_
              refine sf_iconst sf_c1 (fun z72 ez72 => ?_)
              refine sf_zastR Iw61 s63 rfl (by omega) (by omega) rfl (fun w9 h1 h2 => sf_R_ac Iw61 h1 h2 (by omega)) (fun w73 Iw73 sw73 kw73 uw73 => ?_)
              have c74 := sf_ma kw73 (p := 55) rfl
              have c75 := sf_mf kw73 (p := 60) (j := 0) rfl
              have c76 := sf_ma kw73 (p := 61) rfl
              have c77 := sf_ma kw73 (p := 62) rfl
              have c78 := sf_ma kw73 (p := 65) rfl
              have c79 := sf_ma kw73 (p := 66) rfl
              have c80 := sf_ma kw73 (p := 41) rfl
              clear kw73
              have gacc := uw73
              have gva : z72.toInt = 1 := by omega
              rw [c71, c60, c43] at gacc
              refine sf_aload rfl ?_
              refine sf_iload rfl ?_
              refine sf_call2 rfl rfl rfl ?_
              refine sf_rv Iw73 rfl ?_
              refine sc_B_makeLots Iw73 (by omega) (by omega) (by rw [sf_ma sw73 (p := 38) rfl, c75, c65, c54, c37]; omega) (by rw [gacc]; unfold upd; rw [if_pos rfl]; omega) (fun w81 Iw81 tw81 q82_0 q82_1 q82_2 q82_3 q82_4 q82_5 => ?_)
              rw [sf_ma sw73 (p := 38) rfl] at q82_0
              rw [c75, c65, c54, c37] at q82_0
              rw [sf_ma sw73 (p := 38) rfl] at q82_1
              rw [sf_ma sw73 (p := 42) rfl] at q82_1
              rw [c76, c66, c55, c38] at q82_1
              rw [c75, c65, c54, c37] at q82_1
              rw [sf_ma sw73 (p := 38) rfl] at q82_2
              rw [sf_ma sw73 (p := 44) rfl] at q82_2
              rw [c77, c67, c56, c39] at q82_2
              rw [c75, c65, c54, c37] at q82_2
              rw [sf_ma sw73 (p := 38) rfl] at q82_3
              rw [sf_ma sw73 (p := 47) rfl] at q82_3
              rw [c78, c68, c57, c40] at q82_3
              rw [c75, c65, c54, c37] at q82_3
              rw [sf_ma sw73 (p := 38) rfl] at q82_4
              rw [c79, c69, c58, c41] at q82_4
              rw [c75, c65, c54, c37] at q82_4
              rw [c80, c70, c59, c42] at q82_5
              rw [c75, c65, c54, c37] at q82_5
              have s83 := sf_mt sw73 tw81 rfl
              have c84 := sf_ma tw81 (p := 55) rfl
              have c85 := sf_ma tw81 (p := 40) rfl
              have gm0 := q82_0
              have gm1 := q82_1
              have gm2 := q82_2
              have gm3 := q82_3
              have gm4 := q82_4
              have gm5 := q82_5
              refine sf_aload rfl ?_
              refine sf_getr Iw81 rfl rfl ?_
              refine sf_iload rfl ?_
              refine sf_call2 rfl rfl rfl ?_
              refine sf_rv Iw81 rfl ?_
              refine sc_D_dutyOfAll Iw81 (by omega) (by omega) (fun v86 => ?_)
              refine sf_lreturn rfl rfl ?_
              refine sf_last Iw81 s83 rfl (by omega) rfl rfl (fun w88 Iw88 sw88 kw88 uw88 => ?_)
              have c89 := sf_ma kw88 (p := 55) rfl
              have c90 := sf_mf kw88 (p := 60) (j := 0) rfl
              have c91 := sf_ma kw88 (p := 61) rfl
              have c92 := sf_ma kw88 (p := 62) rfl
              have c93 := sf_ma kw88 (p := 65) rfl
              have c94 := sf_ma kw88 (p := 66) rfl
              have c95 := sf_ma kw88 (p := 41) rfl
              have c96 := sf_ma kw88 (p := 40) rfl
              clear kw88
              have go : (sf_l w88 130 0).toInt = v86.toInt := by rw [uw88, show z1.toInt.toNat = 0 by omega]; unfold vp_updL; rw [if_pos rfl]
              refine sf_iconst sf_c0 (fun z97 ez97 => ?_)
              refine sf_ireturn rfl rfl ?_
              exact hR _ _ Iw88 sw88 (by omega) (by omega) (by exact Or.inr (Or.inr (Or.inr (Or.inr ⟨by omega, by omega, by omega, (fun h => absurd (gla.mpr h) (by omega)), gca, by omega⟩)))) (by rw [c90]; rw [c91]; rw [c92]; rw [c93]; rw [c94]; rw [c95]; rw [c96, c85]; exact Or.inr ⟨by omega, by omega, gm1, gm2, gm3, gm4, gm5, ⟨_, gva, gacc⟩⟩)
            · refine sf_throw rfl rfl ?_
              refine sf_xout rfl rfl ?_
              refine sf_xhm rfl ?_
              refine sf_xhm rfl ?_
              refine sf_xhm rfl ?_
              refine sf_xhh (L' := [(0, .inl (.ref 0)), (1, .inl (.int a_l1)), (2, .inl (.ref 130))]) rfl rfl ?_
              refine sf_iconst sf_c4 (fun z98 ez98 => ?_)
              refine sf_ireturn rfl rfl ?_
              exact hR _ _ Iw24 s36 (by omega) (by omega) (by exact Or.inr (Or.inr (Or.inr (Or.inl ⟨by omega, by omega, by omega, (fun h => absurd (gla.mpr h) (by omega)), gca, by omega⟩)))) (by rw [c37]; rw [c38]; rw [c39]; rw [c40]; rw [c41]; rw [c42]; rw [c43]; exact Or.inl ⟨by omega, rfl, rfl, rfl, rfl, rfl, rfl, rfl⟩)
        · refine sf_iconst sf_c0 (fun z99 ez99 => ?_)
          refine sf_call1 rfl rfl rfl ?_
          refine sf_sp (L := [(0, .inl (.int z99))]) rfl rfl ?_
          refine sf_iload rfl ?_
          refine sf_f1_eq (fun h100 => ?_) (fun h100 => absurd h100 (by omega))
          refine sf_throw rfl rfl ?_
          refine sf_xout rfl rfl ?_
          refine sf_xhm rfl ?_
          refine sf_xhh (L' := [(0, .inl (.ref 0)), (1, .inl (.int a_l1)), (2, .inl (.ref 130))]) rfl rfl ?_
          refine sf_iconst sf_c2 (fun z101 ez101 => ?_)
          refine sf_ireturn rfl rfl ?_
          exact hR _ _ hI0 hs0 (by omega) (by omega) (by exact Or.inr (Or.inl ⟨by omega, by omega, Or.inr (gla.mp (by omega))⟩)) (by exact Or.inl ⟨by omega, rfl, rfl, rfl, rfl, rfl, rfl, rfl⟩)
      · refine sf_iconst sf_c0 (fun z102 ez102 => ?_)
        refine sf_call1 rfl rfl rfl ?_
        refine sf_sp (L := [(0, .inl (.int z102))]) rfl rfl ?_
        refine sf_iload rfl ?_
        refine sf_f1_eq (fun h103 => ?_) (fun h103 => absurd h103 (by omega))
        refine sf_throw rfl rfl ?_
        refine sf_xout rfl rfl ?_
        refine sf_xhm rfl ?_
        refine sf_xhh (L' := [(0, .inl (.ref 0)), (1, .inl (.int a_l1)), (2, .inl (.ref 130))]) rfl rfl ?_
        refine sf_iconst sf_c2 (fun z104 ez104 => ?_)
        refine sf_ireturn rfl rfl ?_
        exact hR _ _ hI0 hs0 (by omega) (by omega) (by exact Or.inr (Or.inl ⟨by omega, by omega, Or.inl (by omega)⟩)) (by exact Or.inl ⟨by omega, rfl, rfl, rfl, rfl, rfl, rfl, rfl⟩)
def sm_W_amend_0_130 : List Nat := [11, 12, 22, 44, 45, 46, 48, 49, 50, 52, 53, 54, 55, 56, 57, 58, 59, 62, 64, 67, 130, 7700]
set_option maxRecDepth 100000 in
set_option maxHeartbeats 4000000 in
theorem sc_W_amend_0_130 {w0 : wq_W} (hI0 : sf_I w0) {rt : Option wq_V → wq_W → Prop} {xt : Nat → wq_W → Prop} {a_l1 : Int32} {a_l2 : Int32} {a_l3 : Int32} {a_l4 : Int32} (p0 : sf_J (sf_a w0 3) (sf_a w0 2) (sf_f w0 1 0).toInt) (hR : ∀ (r : Int32) (w : wq_W), sf_I w → sf_m sm_W_amend_0_130 w0 w → 0 ≤ r.toInt → r.toInt ≤ 3 → (sl_cm r.toInt (0 ≤ a_l1.toInt ∧ a_l1.toInt < (sf_f w0 35 0).toInt ∧ 0 ≤ a_l2.toInt ∧ a_l2.toInt < (sf_a w0 38 a_l1.toInt.toNat).toInt ∧ ((a_l3.toInt = 0 ∧ 1 ≤ a_l4.toInt ∧ a_l4.toInt ≤ 1000) ∨ (a_l3.toInt = 1 ∧ 0 ≤ a_l4.toInt ∧ a_l4.toInt ≤ 1000000) ∨ (a_l3.toInt = 2 ∧ 0 ≤ a_l4.toInt ∧ a_l4.toInt ≤ 100000000))) ((sf_a w0 40 a_l1.toInt.toNat).toInt = 1 ∧ ∀ k : Nat, (k : Int) < (sf_a w0 38 a_l1.toInt.toNat).toInt → (sf_a w0 63 (sl_ix (sf_a w0 41 a_l1.toInt.toNat).toInt k)).toInt ≤ 0) (sc_ok (sc_rc (sc_b (sf_a w0 2) (sf_a w0 6) (sf_a w0 7) (sf_a w0 8) (sf_a w0 9) (sf_a w0 3) (sp_ag (sf_g w0 10)) (sf_f w0 1 5).toInt (sf_f w0 1 0).toInt) (sf_a w0 2) (sf_a w0 14) (sf_a w0 15) (sf_a w0 19) (sf_a w0 20) (sf_f w0 13 1).toInt (sf_a w0 42) (sf_a w0 43) (sf_a w0 36 a_l1.toInt.toNat).toInt (4 * a_l1.toInt).toNat) (sf_a w0 38 a_l1.toInt.toNat).toInt)) → (sl_UD (sf_a w0 44) (sf_a w 44) (4 * a_l1.toInt + a_l2.toInt) r.toInt a_l3.toInt a_l4) → (((r.toInt ≠ 0 ∧ sf_a w 62 = sf_a w0 62) ∨ (r.toInt = 0 ∧ sf_a w 62 = sl_W (sf_a w0 62) (sl_ix (sf_a w0 41 a_l1.toInt.toNat).toInt) (sl_sr (sf_a w 44) (4 * a_l1.toInt).toNat) (sf_a w0 38 a_l1.toInt.toNat).toInt.toNat))) → rt (some (.inl (.int r))) w) : ks_W_amend [.inl (.ref 0), .inl (.int a_l1), .inl (.int a_l2), .inl (.int a_l3), .inl (.int a_l4), .inl (.ref 130)] w0 rt xt := by
  have hs0 : sf_m sm_W_amend_0_130 w0 w0 := sf_m0
  refine sf_sp (L := [(0, .inl (.ref 0)), (1, .inl (.int a_l1)), (2, .inl (.int a_l2)), (3, .inl (.int a_l3)), (4, .inl (.int a_l4)), (5, .inl (.ref 130))]) rfl rfl ?_
  refine sf_aload rfl ?_
  refine sf_iconst sf_c0 (fun z1 ez1 => ?_)
  refine sf_aload rfl ?_
  refine sf_iload rfl ?_
  refine sf_iload rfl ?_
  refine sf_iload rfl ?_
  refine sf_iload rfl ?_
  refine sf_call5 rfl rfl rfl ?_
  refine sf_rv hI0 rfl ?_
  refine sf_sp (L := [(0, .inl (.ref 0)), (1, .inl (.int a_l1)), (2, .inl (.int a_l2)), (3, .inl (.int a_l3)), (4, .inl (.int a_l4))]) rfl rfl ?_
  refine sf_aload rfl ?_
  refine sf_iload rfl ?_
  refine sf_iload rfl ?_
  refine sf_call3 rfl rfl rfl ?_
  refine sf_rv hI0 rfl ?_
  refine sf_sp (L := [(0, .inl (.ref 0)), (1, .inl (.int a_l1)), (2, .inl (.int a_l2))]) rfl rfl ?_
  refine sf_aload rfl ?_
  refine sf_iload rfl ?_
  refine sf_call2 rfl rfl rfl ?_
  refine sf_rv hI0 rfl ?_
  refine sf_sp (L := [(0, .inl (.ref 0)), (1, .inl (.int a_l1))]) rfl rfl ?_
  refine sf_iload rfl ?_
  refine sf_aload rfl ?_
  refine sf_getr hI0 rfl rfl ?_
  refine sf_geti hI0 rfl rfl (fun v2 lv2 uv2 ev2 => ?_)
  refine sf_call2 rfl rfl rfl ?_
  refine sf_sp (L := [(0, .inl (.int a_l1)), (1, .inl (.int v2))]) rfl rfl ?_
  refine sf_iconst sf_c0 (fun z3 ez3 => ?_)
  refine sf_iload rfl ?_
  refine sf_f2_gt (fun h4 => ?_) (fun h4 => ?_)
  · refine sf_iconst sf_c0 (fun z5 ez5 => ?_)
    refine sf_zreturn (by omega) rfl rfl ?_
    refine sf_zreturn (by omega) rfl rfl ?_
    refine sf_f1_eq (fun h6 => ?_) (fun h6 => absurd h6 (by omega))
    refine sf_iconst sf_c0 (fun z7 ez7 => ?_)
    refine sf_zreturn (by omega) rfl rfl ?_
    refine sf_call1 rfl rfl rfl ?_
    refine sf_sp (L := [(0, .inl (.int z7))]) rfl rfl ?_
    refine sf_iload rfl ?_
    refine sf_f1_eq (fun h8 => ?_) (fun h8 => absurd h8 (by omega))
    refine sf_throw rfl rfl ?_
    refine sf_xout rfl rfl ?_
    refine sf_xhh (L' := [(0, .inl (.ref 0)), (1, .inl (.int a_l1)), (2, .inl (.int a_l2)), (3, .inl (.int a_l3)), (4, .inl (.int a_l4)), (5, .inl (.ref 130))]) rfl rfl ?_
    refine sf_iconst sf_c1 (fun z9 ez9 => ?_)
    refine sf_ireturn rfl rfl ?_
    exact hR _ _ hI0 hs0 (by omega) (by omega) (by exact Or.inl ⟨by omega, by omega⟩) (by exact Or.inl ⟨by omega, rfl⟩) (by exact Or.inl ⟨by omega, rfl⟩)
  · refine sf_iload rfl ?_
    refine sf_iload rfl ?_
    refine sf_f2_ge (fun h10 => ?_) (fun h10 => ?_)
    · refine sf_iconst sf_c0 (fun z11 ez11 => ?_)
      refine sf_zreturn (by omega) rfl rfl ?_
      refine sf_zreturn (by omega) rfl rfl ?_
      refine sf_f1_eq (fun h12 => ?_) (fun h12 => absurd h12 (by omega))
      refine sf_iconst sf_c0 (fun z13 ez13 => ?_)
      refine sf_zreturn (by omega) rfl rfl ?_
      refine sf_call1 rfl rfl rfl ?_
      refine sf_sp (L := [(0, .inl (.int z13))]) rfl rfl ?_
      refine sf_iload rfl ?_
      refine sf_f1_eq (fun h14 => ?_) (fun h14 => absurd h14 (by omega))
      refine sf_throw rfl rfl ?_
      refine sf_xout rfl rfl ?_
      refine sf_xhh (L' := [(0, .inl (.ref 0)), (1, .inl (.int a_l1)), (2, .inl (.int a_l2)), (3, .inl (.int a_l3)), (4, .inl (.int a_l4)), (5, .inl (.ref 130))]) rfl rfl ?_
      refine sf_iconst sf_c1 (fun z15 ez15 => ?_)
      refine sf_ireturn rfl rfl ?_
      exact hR _ _ hI0 hs0 (by omega) (by omega) (by exact Or.inl ⟨by omega, by omega⟩) (by exact Or.inl ⟨by omega, rfl⟩) (by exact Or.inl ⟨by omega, rfl⟩)
    · refine sf_iconst sf_c1 (fun z16 ez16 => ?_)
      refine sf_zreturn (by omega) rfl rfl ?_
      refine sf_zreturn (by omega) rfl rfl ?_
      refine sf_f1_eq (fun h17 => absurd h17 (by omega)) (fun h17 => ?_)
      refine sf_iload rfl ?_
      refine sf_aload rfl ?_
      refine sf_getr hI0 rfl rfl ?_
      refine sf_getr hI0 rfl rfl ?_
      refine sf_iload rfl ?_
      refine sf_iald hI0 rfl (by omega) (fun v18 lv18 uv18 ev18 => ?_)
      refine sf_call2 rfl rfl rfl ?_
      refine sf_sp (L := [(0, .inl (.int a_l2)), (1, .inl (.int v18))]) rfl rfl ?_
      refine sf_iconst sf_c0 (fun z19 ez19 => ?_)
      refine sf_iload rfl ?_
      refine sf_f2_gt (fun h20 => ?_) (fun h20 => ?_)
      · refine sf_iconst sf_c0 (fun z21 ez21 => ?_)
        refine sf_zreturn (by omega) rfl rfl ?_
        refine sf_f1_eq (fun h22 => ?_) (fun h22 => absurd h22 (by omega))
        refine sf_iconst sf_c0 (fun z23 ez23 => ?_)
        refine sf_zreturn (by omega) rfl rfl ?_
        refine sf_call1 rfl rfl rfl ?_
        refine sf_sp (L := [(0, .inl (.int z23))]) rfl rfl ?_
        refine sf_iload rfl ?_
        refine sf_f1_eq (fun h24 => ?_) (fun h24 => absurd h24 (by omega))
        refine sf_throw rfl rfl ?_
        refine sf_xout rfl rfl ?_
        refine sf_xhh (L' := [(0, .inl (.ref 0)), (1, .inl (.int a_l1)), (2, .inl (.int a_l2)), (3, .inl (.int a_l3)), (4, .inl (.int a_l4)), (5, .inl (.ref 130))]) rfl rfl ?_
        refine sf_iconst sf_c1 (fun z25 ez25 => ?_)
        refine sf_ireturn rfl rfl ?_
        exact hR _ _ hI0 hs0 (by omega) (by omega) (by exact Or.inl ⟨by omega, by omega⟩) (by exact Or.inl ⟨by omega, rfl⟩) (by exact Or.inl ⟨by omega, rfl⟩)
      · refine sf_iload rfl ?_
        refine sf_iload rfl ?_
        refine sf_f2_ge (fun h26 => ?_) (fun h26 => ?_)
        · refine sf_iconst sf_c0 (fun z27 ez27 => ?_)
          refine sf_zreturn (by omega) rfl rfl ?_
          refine sf_f1_eq (fun h28 => ?_) (fun h28 => absurd h28 (by omega))
          refine sf_iconst sf_c0 (fun z29 ez29 => ?_)
          refine sf_zreturn (by omega) rfl rfl ?_
          refine sf_call1 rfl rfl rfl ?_
          refine sf_sp (L := [(0, .inl (.int z29))]) rfl rfl ?_
          refine sf_iload rfl ?_
          refine sf_f1_eq (fun h30 => ?_) (fun h30 => absurd h30 (by omega))
          refine sf_throw rfl rfl ?_
          refine sf_xout rfl rfl ?_
          refine sf_xhh (L' := [(0, .inl (.ref 0)), (1, .inl (.int a_l1)), (2, .inl (.int a_l2)), (3, .inl (.int a_l3)), (4, .inl (.int a_l4)), (5, .inl (.ref 130))]) rfl rfl ?_
          refine sf_iconst sf_c1 (fun z31 ez31 => ?_)
          refine sf_ireturn rfl rfl ?_
          exact hR _ _ hI0 hs0 (by omega) (by omega) (by exact Or.inl ⟨by omega, by omega⟩) (by exact Or.inl ⟨by omega, rfl⟩) (by exact Or.inl ⟨by omega, rfl⟩)
        · refine sf_iconst sf_c1 (fun z32 ez32 => ?_)
          refine sf_zreturn (by omega) rfl rfl ?_
          refine sf_f1_eq (fun h33 => absurd h33 (by omega)) (fun h33 => ?_)
          refine sf_iconst sf_c1 (fun z34 ez34 => ?_)
          refine sf_zreturn (by omega) rfl rfl ?_
          refine sf_call1 rfl rfl rfl ?_
          refine sf_sp (L := [(0, .inl (.int z34))]) rfl rfl ?_
          refine sf_iload rfl ?_
          refine sf_f1_eq (fun h35 => absurd h35 (by omega)) (fun h35 => ?_)
          refine sf_vreturn rfl rfl ?_
          refine sf_iload rfl ?_
          refine sf_iload rfl ?_
          refine sf_call2 rfl rfl rfl ?_
          refine sf_sp (L := [(0, .inl (.int a_l3)), (1, .inl (.int a_l4))]) rfl rfl ?_
          refine sf_iload rfl ?_
          refine sf_sw1 sf_c0 (fun h36 => ?_) (fun h36 => ?_)
          · refine sf_iload rfl ?_
            refine sf_iconst sf_c1 (fun z37 ez37 => ?_)
            refine sf_iconst sf_c1000 (fun z38 ez38 => ?_)
            refine sf_call3 rfl rfl rfl ?_
            refine sf_sp (L := [(0, .inl (.int a_l4)), (1, .inl (.int z37)), (2, .inl (.int z38))]) rfl rfl ?_
            refine sf_iload rfl ?_
            refine sf_iload rfl ?_
            refine sf_f2_gt (fun h39 => ?_) (fun h39 => ?_)
            · refine sf_iconst sf_c0 (fun z40 ez40 => ?_)
              refine sf_zreturn (by omega) rfl rfl ?_
              refine sf_zreturn (by omega) rfl rfl ?_
              refine sf_call1 rfl rfl rfl ?_
              refine sf_sp (L := [(0, .inl (.int z40))]) rfl rfl ?_
              refine sf_iload rfl ?_
              refine sf_f1_eq (fun h41 => ?_) (fun h41 => absurd h41 (by omega))
              refine sf_throw rfl rfl ?_
              refine sf_xout rfl rfl ?_
              refine sf_xhh (L' := [(0, .inl (.ref 0)), (1, .inl (.int a_l1)), (2, .inl (.int a_l2)), (3, .inl (.int a_l3)), (4, .inl (.int a_l4)), (5, .inl (.ref 130))]) rfl rfl ?_
              refine sf_iconst sf_c1 (fun z42 ez42 => ?_)
              refine sf_ireturn rfl rfl ?_
              exact hR _ _ hI0 hs0 (by omega) (by omega) (by exact Or.inl ⟨by omega, by omega⟩) (by exact Or.inl ⟨by omega, rfl⟩) (by exact Or.inl ⟨by omega, rfl⟩)
            · refine sf_iload rfl ?_
              refine sf_iload rfl ?_
              refine sf_f2_gt (fun h43 => ?_) (fun h43 => ?_)
              · refine sf_iconst sf_c0 (fun z44 ez44 => ?_)
                refine sf_zreturn (by omega) rfl rfl ?_
                refine sf_zreturn (by omega) rfl rfl ?_
                refine sf_call1 rfl rfl rfl ?_
                refine sf_sp (L := [(0, .inl (.int z44))]) rfl rfl ?_
                refine sf_iload rfl ?_
                refine sf_f1_eq (fun h45 => ?_) (fun h45 => absurd h45 (by omega))
                refine sf_throw rfl rfl ?_
                refine sf_xout rfl rfl ?_
                refine sf_xhh (L' := [(0, .inl (.ref 0)), (1, .inl (.int a_l1)), (2, .inl (.int a_l2)), (3, .inl (.int a_l3)), (4, .inl (.int a_l4)), (5, .inl (.ref 130))]) rfl rfl ?_
                refine sf_iconst sf_c1 (fun z46 ez46 => ?_)
                refine sf_ireturn rfl rfl ?_
                exact hR _ _ hI0 hs0 (by omega) (by omega) (by exact Or.inl ⟨by omega, by omega⟩) (by exact Or.inl ⟨by omega, rfl⟩) (by exact Or.inl ⟨by omega, rfl⟩)
              · refine sf_iconst sf_c1 (fun z47 ez47 => ?_)
                refine sf_zreturn (by omega) rfl rfl ?_
                refine sf_zreturn (by omega) rfl rfl ?_
                refine sf_call1 rfl rfl rfl ?_
                refine sf_sp (L := [(0, .inl (.int z47))]) rfl rfl ?_
                refine sf_iload rfl ?_
                refine sf_f1_eq (fun h48 => absurd h48 (by omega)) (fun h48 => ?_)
                refine sf_vreturn rfl rfl ?_
                refine sf_aload rfl ?_
                refine sf_getr hI0 rfl rfl ?_
                refine sf_getr hI0 rfl rfl ?_
                refine sf_iload rfl ?_
                refine sf_zald hI0 rfl (by omega) (fun v49 lv49 uv49 ev49 => ?_)
                refine sf_call1 rfl rfl rfl ?_
                refine sf_sp (L := [(0, .inl (.int v49))]) rfl rfl ?_
                refine sf_iload rfl ?_
                refine sf_f1_eq (fun h50 => ?_) (fun h50 => ?_)
                · refine sf_throw rfl rfl ?_
                  refine sf_xout rfl rfl ?_
                  refine sf_xhm rfl ?_
                  refine sf_xhh (L' := [(0, .inl (.ref 0)), (1, .inl (.int a_l1)), (2, .inl (.int a_l2)), (3, .inl (.int a_l3)), (4, .inl (.int a_l4)), (5, .inl (.ref 130))]) rfl rfl ?_
                  refine sf_iconst sf_c2 (fun z51 ez51 => ?_)
                  refine sf_ireturn rfl rfl ?_
                  exact hR _ _ hI0 hs0 (by omega) (by omega) (by exact Or.inr (Or.inl ⟨by omega, by omega, fun h9 => absurd h9.1 (by omega)⟩)) (by exact Or.inl ⟨by omega, rfl⟩) (by exact Or.inl ⟨by omega, rfl⟩)
                · refine sf_vreturn rfl rfl ?_
                  refine sf_aload rfl ?_
                  refine sf_iload rfl ?_
                  refine sf_call2 rfl rfl rfl ?_
                  refine sf_rv hI0 rfl ?_
                  refine sc_B_hasGoneUnits hI0 (by omega) (by omega) (fun v52 lv52 uv52 q53_0 => ?_)
                  have ghg := q53_0
                  refine sf_f1_eq (fun h54 => ?_) (fun h54 => ?_)
                  · refine sf_iconst sf_c1 (fun z55 ez55 => ?_)
                    refine sf_call1 rfl rfl rfl ?_
                    refine sf_sp (L := [(0, .inl (.int z55))]) rfl rfl ?_
                    refine sf_iload rfl ?_
                    refine sf_f1_eq (fun h56 => absurd h56 (by omega)) (fun h56 => ?_)
                    refine sf_vreturn rfl rfl ?_
                    refine sf_aload rfl ?_
                    refine sf_getr hI0 rfl rfl ?_
                    refine sf_iload rfl ?_
                    refine sf_call2 rfl rfl rfl ?_
                    refine sf_rv hI0 rfl ?_
                    refine sc_A_canAssess_K hI0 (by omega) (by omega) (by exact p0) (fun v57 w58 Iw58 tw58 ev57 q59_0 => ?_) (fun v57 w58 Iw58 tw58 ev57 q59_0 q59_1 => ?_)
                    · have s60 := sf_mt hs0 tw58 rfl
                      have c61 := sf_ma tw58 (p := 44) rfl
                      have c62 := sf_ma tw58 (p := 62) rfl
                      have gca := q59_0
                      refine sf_call1 rfl rfl rfl ?_
                      refine sf_sp (L := [(0, .inl (.int v57))]) rfl rfl ?_
                      refine sf_iload rfl ?_
                      refine sf_f1_eq (fun h63 => ?_) (fun h63 => absurd h63 (by omega))
                      refine sf_throw rfl rfl ?_
                      refine sf_xout rfl rfl ?_
                      refine sf_xhm rfl ?_
                      refine sf_xhm rfl ?_
                      refine sf_xhh (L' := [(0, .inl (.ref 0)), (1, .inl (.int a_l1)), (2, .inl (.int a_l2)), (3, .inl (.int a_l3)), (4, .inl (.int a_l4)), (5, .inl (.ref 130))]) rfl rfl ?_
                      refine sf_iconst sf_c3 (fun z64 ez64 => ?_)
                      refine sf_ireturn rfl rfl ?_
                      exact hR _ _ Iw58 s60 (by omega) (by omega) (by exact Or.inr (Or.inr (Or.inl ⟨by omega, by omega, ⟨by omega, ghg.mp (by omega)⟩, gca⟩))) (by rw [c61]; exact Or.inl ⟨by omega, rfl⟩) (by rw [c62]; rw [c61]; exact Or.inl ⟨by omega, rfl⟩)
                    · have s65 := sf_mt hs0 tw58 rfl
                      have c66 := sf_ma tw58 (p := 44) rfl
                      have c67 := sf_ma tw58 (p := 62) rfl
                      have r2 := q59_0
                      rw [sf_ma s65 (p := 38) rfl] at r2
                      have gca := q59_1
                      refine sf_call1 rfl rfl rfl ?_
                      refine sf_sp (L := [(0, .inl (.int v57))]) rfl rfl ?_
                      refine sf_iload rfl ?_
                      refine sf_f1_eq (fun h68 => absurd h68 (by omega)) (fun h68 => ?_)
                      refine sf_vreturn rfl rfl ?_
                      refine sf_aload rfl ?_
                      refine sf_getr Iw58 rfl rfl ?_
                      refine sf_iload rfl ?_
                      refine sf_call2 rfl rfl rfl ?_
                      refine sf_rv Iw58 rfl ?_
                      refine sc_D_dutyOfAll Iw58 (by omega) (by omega) (fun v69 => ?_)
                      refine sf_lstore (L' := [(0, .inl (.ref 0)), (1, .inl (.int a_l1)), (2, .inl (.int a_l2)), (3, .inl (.int a_l3)), (4, .inl (.int a_l4))]) rfl ?_
                      refine sf_aload rfl ?_
                      refine sf_getr Iw58 rfl rfl ?_
                      refine sf_iload rfl ?_
                      refine sf_iload rfl ?_
                      refine sf_call2 rfl rfl rfl ?_
                      refine sf_sp (L := [(0, .inl (.int a_l1)), (1, .inl (.int a_l2))]) rfl rfl ?_
                      refine sf_iload rfl ?_
                      refine sf_iconst sf_c4 (fun z71 ez71 => ?_)
                      refine sf_imulr (n := 4) (by omega) (by omega) (fun v72 ev72 => ?_)
                      refine sf_iload rfl ?_
                      refine sf_iadd (by omega) (fun v73 ev73 => ?_)
                      refine sf_ireturn rfl rfl ?_
                      refine sf_iload rfl ?_
                      refine sf_iload rfl ?_
                      refine sf_call4 rfl rfl rfl ?_
                      refine sf_rv Iw58 rfl ?_
                      refine sf_sp (L := [(0, .inl (.ref 35)), (1, .inl (.int v73)), (2, .inl (.int a_l3)), (3, .inl (.int a_l4))]) rfl rfl ?_
                      refine sf_iload rfl ?_
                      refine sf_sw1 sf_c0 (fun h74 => ?_) (fun h74 => absurd h74 (by omega))
                      refine sf_aload rfl ?_
                      refine sf_getr Iw58 rfl rfl ?_
                      refine sf_iload rfl ?_
                      refine sf_iload rfl ?_
                      refine sf_iast Iw58 s65 rfl (by omega) (by omega) rfl rfl (fun w75 Iw75 sw75 kw75 uw75 => ?_)
                      have c76 := sf_ma kw75 (p := 55) rfl
                      have c77 := sf_ma kw75 (p := 62) rfl
                      clear kw75
                      have gd := uw75
                      rw [c66] at gd
                      rw [show v73.toInt = 4 * a_l1.toInt + a_l2.toInt by omega] at gd
                      refine sf_vreturn rfl rfl ?_
                      refine sf_aload rfl ?_
                      refine sf_getr Iw75 rfl rfl ?_
                      refine sf_iload rfl ?_
                      refine sf_call2 rfl rfl rfl ?_
                      refine sf_rv Iw75 rfl ?_
                      refine sc_A_assessAnew Iw75 (by omega) (by omega) (by rw [sf_ma sw75 (p := 38) rfl]; rw [c76]; exact r2) (fun w78 Iw78 tw78 => ?_)
                      have s80 := sf_mt sw75 tw78 rfl
                      have c81 := sf_ma tw78 (p := 55) rfl
                      have c82 := sf_ma tw78 (p := 44) rfl
                      have c83 := sf_ma tw78 (p := 62) rfl
                      refine sf_aload rfl ?_
                      refine sf_getr Iw78 rfl rfl ?_
                      refine sf_iload rfl ?_
                      refine sf_call2 rfl rfl rfl ?_
                      refine sf_rv Iw78 rfl ?_
                      refine sc_A_book Iw78 (by omega) (by omega) (fun w84 Iw84 tw84 => ?_)
                      have s86 := sf_mt s80 tw84 rfl
                      have c87 := sf_ma tw84 (p := 55) rfl
                      have c88 := sf_ma tw84 (p := 44) rfl
                      have c89 := sf_ma tw84 (p := 62) rfl
                      refine sf_aload rfl ?_
                      refine sf_iload rfl ?_
                      refine sf_call2 rfl rfl rfl ?_
                      refine sf_rv Iw84 rfl ?_
                      refine sc_B_changeLots Iw84 (by omega) (by omega) (fun w90 Iw90 tw90 q91_0 => ?_)
                      rw [sf_ma s86 (p := 38) rfl] at q91_0
                      rw [sf_ma s86 (p := 41) rfl] at q91_0
                      rw [c88, c82] at q91_0
                      rw [c89, c83, c77, c67] at q91_0
                      have s92 := sf_mt s86 tw90 rfl
                      have c93 := sf_ma tw90 (p := 55) rfl
                      have c94 := sf_ma tw90 (p := 44) rfl
                      have gch := q91_0
                      refine sf_aload rfl ?_
                      refine sf_getr Iw90 rfl rfl ?_
                      refine sf_iload rfl ?_
                      refine sf_call2 rfl rfl rfl ?_
                      refine sf_rv Iw90 rfl ?_
                      refine sc_D_dutyOfAll Iw90 (by omega) (by omega) (fun v95 => ?_)
                      refine sf_lload rfl ?_
                      refine sf_l2 (fun v97 => ?_)
                      refine sf_lreturn rfl rfl ?_
                      refine sf_last Iw90 s92 rfl (by omega) rfl rfl (fun w98 Iw98 sw98 kw98 uw98 => ?_)
                      have c99 := sf_ma kw98 (p := 55) rfl
                      have c100 := sf_ma kw98 (p := 44) rfl
                      have c101 := sf_ma kw98 (p := 62) rfl
                      clear kw98
                      have go : (sf_l w98 130 0).toInt = v97.toInt := by rw [uw98, show z1.toInt.toNat = 0 by omega]; unfold vp_updL; rw [if_pos rfl]
                      refine sf_iconst sf_c0 (fun z102 ez102 => ?_)
                      refine sf_ireturn rfl rfl ?_
                      exact hR _ _ Iw98 sw98 (by omega) (by omega) (by exact Or.inr (Or.inr (Or.inr ⟨by omega, by omega, ⟨by omega, ghg.mp (by omega)⟩, gca⟩))) (by rw [c100, c94, c88, c82]; exact Or.inr ⟨by omega, by omega, gd⟩) (by rw [c101]; rw [c100, c94, c88, c82]; exact Or.inr ⟨by omega, gch⟩)
                  · refine sf_iconst sf_c0 (fun z103 ez103 => ?_)
                    refine sf_call1 rfl rfl rfl ?_
                    refine sf_sp (L := [(0, .inl (.int z103))]) rfl rfl ?_
                    refine sf_iload rfl ?_
                    refine sf_f1_eq (fun h104 => ?_) (fun h104 => absurd h104 (by omega))
                    refine sf_throw rfl rfl ?_
                    refine sf_xout rfl rfl ?_
                    refine sf_xhm rfl ?_
                    refine sf_xhh (L' := [(0, .inl (.ref 0)), (1, .inl (.int a_l1)), (2, .inl (.int a_l2)), (3, .inl (.int a_l3)), (4, .inl (.int a_l4)), (5, .inl (.ref 130))]) rfl rfl ?_
                    refine sf_iconst sf_c2 (fun z105 ez105 => ?_)
                    refine sf_ireturn rfl rfl ?_
                    exact hR _ _ hI0 hs0 (by omega) (by omega) (by exact Or.inr (Or.inl ⟨by omega, by omega, fun h9 => absurd (ghg.mpr h9.2) (by omega)⟩)) (by exact Or.inl ⟨by omega, rfl⟩) (by exact Or.inl ⟨by omega, rfl⟩)
          · refine sf_sw1 sf_c1 (fun h106 => ?_) (fun h106 => ?_)
            · refine sf_iload rfl ?_
              refine sf_iconst sf_c0 (fun z107 ez107 => ?_)
              refine sf_iconst sf_cl1000000 (fun z108 ez108 => ?_)
              refine sf_call3 rfl rfl rfl ?_
              refine sf_sp (L := [(0, .inl (.int a_l4)), (1, .inl (.int z107)), (2, .inl (.int z108))]) rfl rfl ?_
              refine sf_iload rfl ?_
              refine sf_iload rfl ?_
              refine sf_f2_gt (fun h109 => ?_) (fun h109 => ?_)
              · refine sf_iconst sf_c0 (fun z110 ez110 => ?_)
                refine sf_zreturn (by omega) rfl rfl ?_
                refine sf_zreturn (by omega) rfl rfl ?_
                refine sf_call1 rfl rfl rfl ?_
                refine sf_sp (L := [(0, .inl (.int z110))]) rfl rfl ?_
                refine sf_iload rfl ?_
                refine sf_f1_eq (fun h111 => ?_) (fun h111 => absurd h111 (by omega))
                refine sf_throw rfl rfl ?_
                refine sf_xout rfl rfl ?_
                refine sf_xhh (L' := [(0, .inl (.ref 0)), (1, .inl (.int a_l1)), (2, .inl (.int a_l2)), (3, .inl (.int a_l3)), (4, .inl (.int a_l4)), (5, .inl (.ref 130))]) rfl rfl ?_
                refine sf_iconst sf_c1 (fun z112 ez112 => ?_)
                refine sf_ireturn rfl rfl ?_
                exact hR _ _ hI0 hs0 (by omega) (by omega) (by exact Or.inl ⟨by omega, by omega⟩) (by exact Or.inl ⟨by omega, rfl⟩) (by exact Or.inl ⟨by omega, rfl⟩)
              · refine sf_iload rfl ?_
                refine sf_iload rfl ?_
                refine sf_f2_gt (fun h113 => ?_) (fun h113 => ?_)
                · refine sf_iconst sf_c0 (fun z114 ez114 => ?_)
                  refine sf_zreturn (by omega) rfl rfl ?_
                  refine sf_zreturn (by omega) rfl rfl ?_
                  refine sf_call1 rfl rfl rfl ?_
                  refine sf_sp (L := [(0, .inl (.int z114))]) rfl rfl ?_
                  refine sf_iload rfl ?_
                  refine sf_f1_eq (fun h115 => ?_) (fun h115 => absurd h115 (by omega))
                  refine sf_throw rfl rfl ?_
                  refine sf_xout rfl rfl ?_
                  refine sf_xhh (L' := [(0, .inl (.ref 0)), (1, .inl (.int a_l1)), (2, .inl (.int a_l2)), (3, .inl (.int a_l3)), (4, .inl (.int a_l4)), (5, .inl (.ref 130))]) rfl rfl ?_
                  refine sf_iconst sf_c1 (fun z116 ez116 => ?_)
                  refine sf_ireturn rfl rfl ?_
                  exact hR _ _ hI0 hs0 (by omega) (by omega) (by exact Or.inl ⟨by omega, by omega⟩) (by exact Or.inl ⟨by omega, rfl⟩) (by exact Or.inl ⟨by omega, rfl⟩)
                · refine sf_iconst sf_c1 (fun z117 ez117 => ?_)
                  refine sf_zreturn (by omega) rfl rfl ?_
                  refine sf_zreturn (by omega) rfl rfl ?_
                  refine sf_call1 rfl rfl rfl ?_
                  refine sf_sp (L := [(0, .inl (.int z117))]) rfl rfl ?_
                  refine sf_iload rfl ?_
                  refine sf_f1_eq (fun h118 => absurd h118 (by omega)) (fun h118 => ?_)
                  refine sf_vreturn rfl rfl ?_
                  refine sf_aload rfl ?_
                  refine sf_getr hI0 rfl rfl ?_
                  refine sf_getr hI0 rfl rfl ?_
                  refine sf_iload rfl ?_
                  refine sf_zald hI0 rfl (by omega) (fun v119 lv119 uv119 ev119 => ?_)
                  refine sf_call1 rfl rfl rfl ?_
                  refine sf_sp (L := [(0, .inl (.int v119))]) rfl rfl ?_
                  refine sf_iload rfl ?_
                  refine sf_f1_eq (fun h120 => ?_) (fun h120 => ?_)
                  · refine sf_throw rfl rfl ?_
                    refine sf_xout rfl rfl ?_
                    refine sf_xhm rfl ?_
                    refine sf_xhh (L' := [(0, .inl (.ref 0)), (1, .inl (.int a_l1)), (2, .inl (.int a_l2)), (3, .inl (.int a_l3)), (4, .inl (.int a_l4)), (5, .inl (.ref 130))]) rfl rfl ?_
                    refine sf_iconst sf_c2 (fun z121 ez121 => ?_)
                    refine sf_ireturn rfl rfl ?_
                    exact hR _ _ hI0 hs0 (by omega) (by omega) (by exact Or.inr (Or.inl ⟨by omega, by omega, fun h9 => absurd h9.1 (by omega)⟩)) (by exact Or.inl ⟨by omega, rfl⟩) (by exact Or.inl ⟨by omega, rfl⟩)
                  · refine sf_vreturn rfl rfl ?_
                    refine sf_aload rfl ?_
                    refine sf_iload rfl ?_
                    refine sf_call2 rfl rfl rfl ?_
                    refine sf_rv hI0 rfl ?_
                    refine sc_B_hasGoneUnits hI0 (by omega) (by omega) (fun v122 lv122 uv122 q123_0 => ?_)
                    have ghg := q123_0
                    refine sf_f1_eq (fun h124 => ?_) (fun h124 => ?_)
                    · refine sf_iconst sf_c1 (fun z125 ez125 => ?_)
                      refine sf_call1 rfl rfl rfl ?_
                      refine sf_sp (L := [(0, .inl (.int z125))]) rfl rfl ?_
                      refine sf_iload rfl ?_
                      refine sf_f1_eq (fun h126 => absurd h126 (by omega)) (fun h126 => ?_)
                      refine sf_vreturn rfl rfl ?_
                      refine sf_aload rfl ?_
                      refine sf_getr hI0 rfl rfl ?_
                      refine sf_iload rfl ?_
                      refine sf_call2 rfl rfl rfl ?_
                      refine sf_rv hI0 rfl ?_
                      refine sc_A_canAssess_K hI0 (by omega) (by omega) (by exact p0) (fun v127 w128 Iw128 tw128 ev127 q129_0 => ?_) (fun v127 w128 Iw128 tw128 ev127 q129_0 q129_1 => ?_)
                      · have s130 := sf_mt hs0 tw128 rfl
                        have c131 := sf_ma tw128 (p := 44) rfl
                        have c132 := sf_ma tw128 (p := 62) rfl
                        have gca := q129_0
                        refine sf_call1 rfl rfl rfl ?_
                        refine sf_sp (L := [(0, .inl (.int v127))]) rfl rfl ?_
                        refine sf_iload rfl ?_
                        refine sf_f1_eq (fun h133 => ?_) (fun h133 => absurd h133 (by omega))
                        refine sf_throw rfl rfl ?_
                        refine sf_xout rfl rfl ?_
                        refine sf_xhm rfl ?_
                        refine sf_xhm rfl ?_
                        refine sf_xhh (L' := [(0, .inl (.ref 0)), (1, .inl (.int a_l1)), (2, .inl (.int a_l2)), (3, .inl (.int a_l3)), (4, .inl (.int a_l4)), (5, .inl (.ref 130))]) rfl rfl ?_
                        refine sf_iconst sf_c3 (fun z134 ez134 => ?_)
                        refine sf_ireturn rfl rfl ?_
                        exact hR _ _ Iw128 s130 (by omega) (by omega) (by exact Or.inr (Or.inr (Or.inl ⟨by omega, by omega, ⟨by omega, ghg.mp (by omega)⟩, gca⟩))) (by rw [c131]; exact Or.inl ⟨by omega, rfl⟩) (by rw [c132]; rw [c131]; exact Or.inl ⟨by omega, rfl⟩)
                      · have s135 := sf_mt hs0 tw128 rfl
                        have c136 := sf_ma tw128 (p := 44) rfl
                        have c137 := sf_ma tw128 (p := 62) rfl
                        have r2 := q129_0
                        rw [sf_ma s135 (p := 38) rfl] at r2
                        have gca := q129_1
                        refine sf_call1 rfl rfl rfl ?_
                        refine sf_sp (L := [(0, .inl (.int v127))]) rfl rfl ?_
                        refine sf_iload rfl ?_
                        refine sf_f1_eq (fun h138 => absurd h138 (by omega)) (fun h138 => ?_)
                        refine sf_vreturn rfl rfl ?_
                        refine sf_aload rfl ?_
                        refine sf_getr Iw128 rfl rfl ?_
                        refine sf_iload rfl ?_
                        refine sf_call2 rfl rfl rfl ?_
                        refine sf_rv Iw128 rfl ?_
                        refine sc_D_dutyOfAll Iw128 (by omega) (by omega) (fun v139 => ?_)
                        refine sf_lstore (L' := [(0, .inl (.ref 0)), (1, .inl (.int a_l1)), (2, .inl (.int a_l2)), (3, .inl (.int a_l3)), (4, .inl (.int a_l4))]) rfl ?_
                        refine sf_aload rfl ?_
                        refine sf_getr Iw128 rfl rfl ?_
                        refine sf_iload rfl ?_
                        refine sf_iload rfl ?_
                        refine sf_call2 rfl rfl rfl ?_
                        refine sf_sp (L := [(0, .inl (.int a_l1)), (1, .inl (.int a_l2))]) rfl rfl ?_
                        refine sf_iload rfl ?_
                        refine sf_iconst sf_c4 (fun z141 ez141 => ?_)
                        refine sf_imulr (n := 4) (by omega) (by omega) (fun v142 ev142 => ?_)
                        refine sf_iload rfl ?_
                        refine sf_iadd (by omega) (fun v143 ev143 => ?_)
                        refine sf_ireturn rfl rfl ?_
                        refine sf_iload rfl ?_
                        refine sf_iload rfl ?_
                        refine sf_call4 rfl rfl rfl ?_
                        refine sf_rv Iw128 rfl ?_
                        refine sf_sp (L := [(0, .inl (.ref 35)), (1, .inl (.int v143)), (2, .inl (.int a_l3)), (3, .inl (.int a_l4))]) rfl rfl ?_
                        refine sf_iload rfl ?_
                        refine sf_sw1 sf_c0 (fun h144 => absurd h144 (by omega)) (fun h144 => ?_)
                        refine sf_sw1 sf_c1 (fun h145 => ?_) (fun h145 => absurd h145 (by omega))
                        refine sf_aload rfl ?_
                        refine sf_getr Iw128 rfl rfl ?_
                        refine sf_iload rfl ?_
                        refine sf_iload rfl ?_
                        refine sf_iast Iw128 s135 rfl (by omega) (sf_bd _) rfl rfl (fun w146 Iw146 sw146 kw146 uw146 => ?_)
                        have c147 := sf_ma kw146 (p := 55) rfl
                        have c148 := sf_ma kw146 (p := 44) rfl
                        have c149 := sf_ma kw146 (p := 62) rfl
                        clear kw146 uw146
                        refine sf_vreturn rfl rfl ?_
                        refine sf_aload rfl ?_
                        refine sf_getr Iw146 rfl rfl ?_
                        refine sf_iload rfl ?_
                        refine sf_call2 rfl rfl rfl ?_
                        refine sf_rv Iw146 rfl ?_
                        refine sc_A_assessAnew Iw146 (by omega) (by omega) (by rw [sf_ma sw146 (p := 38) rfl]; rw [c147]; exact r2) (fun w150 Iw150 tw150 => ?_)
                        have s152 := sf_mt sw146 tw150 rfl
                        have c153 := sf_ma tw150 (p := 55) rfl
                        have c154 := sf_ma tw150 (p := 44) rfl
                        have c155 := sf_ma tw150 (p := 62) rfl
                        refine sf_aload rfl ?_
                        refine sf_getr Iw150 rfl rfl ?_
                        refine sf_iload rfl ?_
                        refine sf_call2 rfl rfl rfl ?_
                        refine sf_rv Iw150 rfl ?_
                        refine sc_A_book Iw150 (by omega) (by omega) (fun w156 Iw156 tw156 => ?_)
                        have s158 := sf_mt s152 tw156 rfl
                        have c159 := sf_ma tw156 (p := 55) rfl
                        have c160 := sf_ma tw156 (p := 44) rfl
                        have c161 := sf_ma tw156 (p := 62) rfl
                        refine sf_aload rfl ?_
                        refine sf_iload rfl ?_
                        refine sf_call2 rfl rfl rfl ?_
                        refine sf_rv Iw156 rfl ?_
                        refine sc_B_changeLots Iw156 (by omega) (by omega) (fun w162 Iw162 tw162 q163_0 => ?_)
                        rw [sf_ma s158 (p := 38) rfl] at q163_0
                        rw [sf_ma s158 (p := 41) rfl] at q163_0
                        rw [c160, c154, c148, c136] at q163_0
                        rw [c161, c155, c149, c137] at q163_0
                        have s164 := sf_mt s158 tw162 rfl
                        have c165 := sf_ma tw162 (p := 55) rfl
                        have c166 := sf_ma tw162 (p := 44) rfl
                        have gch := q163_0
                        refine sf_aload rfl ?_
                        refine sf_getr Iw162 rfl rfl ?_
                        refine sf_iload rfl ?_
                        refine sf_call2 rfl rfl rfl ?_
                        refine sf_rv Iw162 rfl ?_
                        refine sc_D_dutyOfAll Iw162 (by omega) (by omega) (fun v167 => ?_)
                        refine sf_lload rfl ?_
                        refine sf_l2 (fun v169 => ?_)
                        refine sf_lreturn rfl rfl ?_
                        refine sf_last Iw162 s164 rfl (by omega) rfl rfl (fun w170 Iw170 sw170 kw170 uw170 => ?_)
                        have c171 := sf_ma kw170 (p := 55) rfl
                        have c172 := sf_ma kw170 (p := 44) rfl
                        have c173 := sf_ma kw170 (p := 62) rfl
                        clear kw170
                        have go : (sf_l w170 130 0).toInt = v169.toInt := by rw [uw170, show z1.toInt.toNat = 0 by omega]; unfold vp_updL; rw [if_pos rfl]
                        refine sf_iconst sf_c0 (fun z174 ez174 => ?_)
                        refine sf_ireturn rfl rfl ?_
                        exact hR _ _ Iw170 sw170 (by omega) (by omega) (by exact Or.inr (Or.inr (Or.inr ⟨by omega, by omega, ⟨by omega, ghg.mp (by omega)⟩, gca⟩))) (by rw [c172, c166, c160, c154, c148, c136]; exact Or.inl ⟨by omega, rfl⟩) (by rw [c173]; rw [c172, c166, c160, c154, c148, c136]; exact Or.inr ⟨by omega, gch⟩)
                    · refine sf_iconst sf_c0 (fun z175 ez175 => ?_)
                      refine sf_call1 rfl rfl rfl ?_
                      refine sf_sp (L := [(0, .inl (.int z175))]) rfl rfl ?_
                      refine sf_iload rfl ?_
                      refine sf_f1_eq (fun h176 => ?_) (fun h176 => absurd h176 (by omega))
                      refine sf_throw rfl rfl ?_
                      refine sf_xout rfl rfl ?_
                      refine sf_xhm rfl ?_
                      refine sf_xhh (L' := [(0, .inl (.ref 0)), (1, .inl (.int a_l1)), (2, .inl (.int a_l2)), (3, .inl (.int a_l3)), (4, .inl (.int a_l4)), (5, .inl (.ref 130))]) rfl rfl ?_
                      refine sf_iconst sf_c2 (fun z177 ez177 => ?_)
                      refine sf_ireturn rfl rfl ?_
                      exact hR _ _ hI0 hs0 (by omega) (by omega) (by exact Or.inr (Or.inl ⟨by omega, by omega, fun h9 => absurd (ghg.mpr h9.2) (by omega)⟩)) (by exact Or.inl ⟨by omega, rfl⟩) (by exact Or.inl ⟨by omega, rfl⟩)
            · refine sf_sw1 sf_c2 (fun h178 => ?_) (fun h178 => ?_)
              · refine sf_iload rfl ?_
                refine sf_iconst sf_c0 (fun z179 ez179 => ?_)
                refine sf_iconst sf_cl100000000 (fun z180 ez180 => ?_)
                refine sf_call3 rfl rfl rfl ?_
                refine sf_sp (L := [(0, .inl (.int a_l4)), (1, .inl (.int z179)), (2, .inl (.int z180))]) rfl rfl ?_
                refine sf_iload rfl ?_
                refine sf_iload rfl ?_
                refine sf_f2_gt (fun h181 => ?_) (fun h181 => ?_)
                · refine sf_iconst sf_c0 (fun z182 ez182 => ?_)
                  refine sf_zreturn (by omega) rfl rfl ?_
                  refine sf_zreturn (by omega) rfl rfl ?_
                  refine sf_call1 rfl rfl rfl ?_
                  refine sf_sp (L := [(0, .inl (.int z182))]) rfl rfl ?_
                  refine sf_iload rfl ?_
                  refine sf_f1_eq (fun h183 => ?_) (fun h183 => absurd h183 (by omega))
                  refine sf_throw rfl rfl ?_
                  refine sf_xout rfl rfl ?_
                  refine sf_xhh (L' := [(0, .inl (.ref 0)), (1, .inl (.int a_l1)), (2, .inl (.int a_l2)), (3, .inl (.int a_l3)), (4, .inl (.int a_l4)), (5, .inl (.ref 130))]) rfl rfl ?_
                  refine sf_iconst sf_c1 (fun z184 ez184 => ?_)
                  refine sf_ireturn rfl rfl ?_
                  exact hR _ _ hI0 hs0 (by omega) (by omega) (by exact Or.inl ⟨by omega, by omega⟩) (by exact Or.inl ⟨by omega, rfl⟩) (by exact Or.inl ⟨by omega, rfl⟩)
                · refine sf_iload rfl ?_
                  refine sf_iload rfl ?_
                  refine sf_f2_gt (fun h185 => ?_) (fun h185 => ?_)
                  · refine sf_iconst sf_c0 (fun z186 ez186 => ?_)
                    refine sf_zreturn (by omega) rfl rfl ?_
                    refine sf_zreturn (by omega) rfl rfl ?_
                    refine sf_call1 rfl rfl rfl ?_
                    refine sf_sp (L := [(0, .inl (.int z186))]) rfl rfl ?_
                    refine sf_iload rfl ?_
                    refine sf_f1_eq (fun h187 => ?_) (fun h187 => absurd h187 (by omega))
                    refine sf_throw rfl rfl ?_
                    refine sf_xout rfl rfl ?_
                    refine sf_xhh (L' := [(0, .inl (.ref 0)), (1, .inl (.int a_l1)), (2, .inl (.int a_l2)), (3, .inl (.int a_l3)), (4, .inl (.int a_l4)), (5, .inl (.ref 130))]) rfl rfl ?_
                    refine sf_iconst sf_c1 (fun z188 ez188 => ?_)
                    refine sf_ireturn rfl rfl ?_
                    exact hR _ _ hI0 hs0 (by omega) (by omega) (by exact Or.inl ⟨by omega, by omega⟩) (by exact Or.inl ⟨by omega, rfl⟩) (by exact Or.inl ⟨by omega, rfl⟩)
                  · refine sf_iconst sf_c1 (fun z189 ez189 => ?_)
                    refine sf_zreturn (by omega) rfl rfl ?_
                    refine sf_zreturn (by omega) rfl rfl ?_
                    refine sf_call1 rfl rfl rfl ?_
                    refine sf_sp (L := [(0, .inl (.int z189))]) rfl rfl ?_
                    refine sf_iload rfl ?_
                    refine sf_f1_eq (fun h190 => absurd h190 (by omega)) (fun h190 => ?_)
                    refine sf_vreturn rfl rfl ?_
                    refine sf_aload rfl ?_
                    refine sf_getr hI0 rfl rfl ?_
                    refine sf_getr hI0 rfl rfl ?_
                    refine sf_iload rfl ?_
                    refine sf_zald hI0 rfl (by omega) (fun v191 lv191 uv191 ev191 => ?_)
                    refine sf_call1 rfl rfl rfl ?_
                    refine sf_sp (L := [(0, .inl (.int v191))]) rfl rfl ?_
                    refine sf_iload rfl ?_
                    refine sf_f1_eq (fun h192 => ?_) (fun h192 => ?_)
                    · refine sf_throw rfl rfl ?_
                      refine sf_xout rfl rfl ?_
                      refine sf_xhm rfl ?_
                      refine sf_xhh (L' := [(0, .inl (.ref 0)), (1, .inl (.int a_l1)), (2, .inl (.int a_l2)), (3, .inl (.int a_l3)), (4, .inl (.int a_l4)), (5, .inl (.ref 130))]) rfl rfl ?_
                      refine sf_iconst sf_c2 (fun z193 ez193 => ?_)
                      refine sf_ireturn rfl rfl ?_
                      exact hR _ _ hI0 hs0 (by omega) (by omega) (by exact Or.inr (Or.inl ⟨by omega, by omega, fun h9 => absurd h9.1 (by omega)⟩)) (by exact Or.inl ⟨by omega, rfl⟩) (by exact Or.inl ⟨by omega, rfl⟩)
                    · refine sf_vreturn rfl rfl ?_
                      refine sf_aload rfl ?_
                      refine sf_iload rfl ?_
                      refine sf_call2 rfl rfl rfl ?_
                      refine sf_rv hI0 rfl ?_
                      refine sc_B_hasGoneUnits hI0 (by omega) (by omega) (fun v194 lv194 uv194 q195_0 => ?_)
                      have ghg := q195_0
                      refine sf_f1_eq (fun h196 => ?_) (fun h196 => ?_)
                      · refine sf_iconst sf_c1 (fun z197 ez197 => ?_)
                        refine sf_call1 rfl rfl rfl ?_
                        refine sf_sp (L := [(0, .inl (.int z197))]) rfl rfl ?_
                        refine sf_iload rfl ?_
                        refine sf_f1_eq (fun h198 => absurd h198 (by omega)) (fun h198 => ?_)
                        refine sf_vreturn rfl rfl ?_
                        refine sf_aload rfl ?_
                        refine sf_getr hI0 rfl rfl ?_
                        refine sf_iload rfl ?_
                        refine sf_call2 rfl rfl rfl ?_
                        refine sf_rv hI0 rfl ?_
                        refine sc_A_canAssess_K hI0 (by omega) (by omega) (by exact p0) (fun v199 w200 Iw200 tw200 ev199 q201_0 => ?_) (fun v199 w200 Iw200 tw200 ev199 q201_0 q201_1 => ?_)
                        · have s202 := sf_mt hs0 tw200 rfl
                          have c203 := sf_ma tw200 (p := 44) rfl
                          have c204 := sf_ma tw200 (p := 62) rfl
                          have gca := q201_0
                          refine sf_call1 rfl rfl rfl ?_
                          refine sf_sp (L := [(0, .inl (.int v199))]) rfl rfl ?_
                          refine sf_iload rfl ?_
                          refine sf_f1_eq (fun h205 => ?_) (fun h205 => absurd h205 (by omega))
                          refine sf_throw rfl rfl ?_
                          refine sf_xout rfl rfl ?_
                          refine sf_xhm rfl ?_
                          refine sf_xhm rfl ?_
                          refine sf_xhh (L' := [(0, .inl (.ref 0)), (1, .inl (.int a_l1)), (2, .inl (.int a_l2)), (3, .inl (.int a_l3)), (4, .inl (.int a_l4)), (5, .inl (.ref 130))]) rfl rfl ?_
                          refine sf_iconst sf_c3 (fun z206 ez206 => ?_)
                          refine sf_ireturn rfl rfl ?_
                          exact hR _ _ Iw200 s202 (by omega) (by omega) (by exact Or.inr (Or.inr (Or.inl ⟨by omega, by omega, ⟨by omega, ghg.mp (by omega)⟩, gca⟩))) (by rw [c203]; exact Or.inl ⟨by omega, rfl⟩) (by rw [c204]; rw [c203]; exact Or.inl ⟨by omega, rfl⟩)
                        · have s207 := sf_mt hs0 tw200 rfl
                          have c208 := sf_ma tw200 (p := 44) rfl
                          have c209 := sf_ma tw200 (p := 62) rfl
                          have r2 := q201_0
                          rw [sf_ma s207 (p := 38) rfl] at r2
                          have gca := q201_1
                          refine sf_call1 rfl rfl rfl ?_
                          refine sf_sp (L := [(0, .inl (.int v199))]) rfl rfl ?_
                          refine sf_iload rfl ?_
                          refine sf_f1_eq (fun h210 => absurd h210 (by omega)) (fun h210 => ?_)
                          refine sf_vreturn rfl rfl ?_
                          refine sf_aload rfl ?_
                          refine sf_getr Iw200 rfl rfl ?_
                          refine sf_iload rfl ?_
                          refine sf_call2 rfl rfl rfl ?_
                          refine sf_rv Iw200 rfl ?_
                          refine sc_D_dutyOfAll Iw200 (by omega) (by omega) (fun v211 => ?_)
                          refine sf_lstore (L' := [(0, .inl (.ref 0)), (1, .inl (.int a_l1)), (2, .inl (.int a_l2)), (3, .inl (.int a_l3)), (4, .inl (.int a_l4))]) rfl ?_
                          refine sf_aload rfl ?_
                          refine sf_getr Iw200 rfl rfl ?_
                          refine sf_iload rfl ?_
                          refine sf_iload rfl ?_
                          refine sf_call2 rfl rfl rfl ?_
                          refine sf_sp (L := [(0, .inl (.int a_l1)), (1, .inl (.int a_l2))]) rfl rfl ?_
                          refine sf_iload rfl ?_
                          refine sf_iconst sf_c4 (fun z213 ez213 => ?_)
                          refine sf_imulr (n := 4) (by omega) (by omega) (fun v214 ev214 => ?_)
                          refine sf_iload rfl ?_
                          refine sf_iadd (by omega) (fun v215 ev215 => ?_)
                          refine sf_ireturn rfl rfl ?_
                          refine sf_iload rfl ?_
                          refine sf_iload rfl ?_
                          refine sf_call4 rfl rfl rfl ?_
                          refine sf_rv Iw200 rfl ?_
                          refine sf_sp (L := [(0, .inl (.ref 35)), (1, .inl (.int v215)), (2, .inl (.int a_l3)), (3, .inl (.int a_l4))]) rfl rfl ?_
                          refine sf_iload rfl ?_
                          refine sf_sw1 sf_c0 (fun h216 => absurd h216 (by omega)) (fun h216 => ?_)
                          refine sf_sw1 sf_c1 (fun h217 => absurd h217 (by omega)) (fun h217 => ?_)
                          refine sf_sw0 ?_
                          refine sf_aload rfl ?_
                          refine sf_getr Iw200 rfl rfl ?_
                          refine sf_iload rfl ?_
                          refine sf_iload rfl ?_
                          refine sf_iast Iw200 s207 rfl (by omega) (sf_bd _) rfl rfl (fun w218 Iw218 sw218 kw218 uw218 => ?_)
                          have c219 := sf_ma kw218 (p := 55) rfl
                          have c220 := sf_ma kw218 (p := 44) rfl
                          have c221 := sf_ma kw218 (p := 62) rfl
                          clear kw218 uw218
                          refine sf_vreturn rfl rfl ?_
                          refine sf_aload rfl ?_
                          refine sf_getr Iw218 rfl rfl ?_
                          refine sf_iload rfl ?_
                          refine sf_call2 rfl rfl rfl ?_
                          refine sf_rv Iw218 rfl ?_
                          refine sc_A_assessAnew Iw218 (by omega) (by omega) (by rw [sf_ma sw218 (p := 38) rfl]; rw [c219]; exact r2) (fun w222 Iw222 tw222 => ?_)
                          have s224 := sf_mt sw218 tw222 rfl
                          have c225 := sf_ma tw222 (p := 55) rfl
                          have c226 := sf_ma tw222 (p := 44) rfl
                          have c227 := sf_ma tw222 (p := 62) rfl
                          refine sf_aload rfl ?_
                          refine sf_getr Iw222 rfl rfl ?_
                          refine sf_iload rfl ?_
                          refine sf_call2 rfl rfl rfl ?_
                          refine sf_rv Iw222 rfl ?_
                          refine sc_A_book Iw222 (by omega) (by omega) (fun w228 Iw228 tw228 => ?_)
                          have s230 := sf_mt s224 tw228 rfl
                          have c231 := sf_ma tw228 (p := 55) rfl
                          have c232 := sf_ma tw228 (p := 44) rfl
                          have c233 := sf_ma tw228 (p := 62) rfl
                          refine sf_aload rfl ?_
                          refine sf_iload rfl ?_
                          refine sf_call2 rfl rfl rfl ?_
                          refine sf_rv Iw228 rfl ?_
                          refine sc_B_changeLots Iw228 (by omega) (by omega) (fun w234 Iw234 tw234 q235_0 => ?_)
                          rw [sf_ma s230 (p := 38) rfl] at q235_0
                          rw [sf_ma s230 (p := 41) rfl] at q235_0
                          rw [c232, c226, c220, c208] at q235_0
                          rw [c233, c227, c221, c209] at q235_0
                          have s236 := sf_mt s230 tw234 rfl
                          have c237 := sf_ma tw234 (p := 55) rfl
                          have c238 := sf_ma tw234 (p := 44) rfl
                          have gch := q235_0
                          refine sf_aload rfl ?_
                          refine sf_getr Iw234 rfl rfl ?_
                          refine sf_iload rfl ?_
                          refine sf_call2 rfl rfl rfl ?_
                          refine sf_rv Iw234 rfl ?_
                          refine sc_D_dutyOfAll Iw234 (by omega) (by omega) (fun v239 => ?_)
                          refine sf_lload rfl ?_
                          refine sf_l2 (fun v241 => ?_)
                          refine sf_lreturn rfl rfl ?_
                          refine sf_last Iw234 s236 rfl (by omega) rfl rfl (fun w242 Iw242 sw242 kw242 uw242 => ?_)
                          have c243 := sf_ma kw242 (p := 55) rfl
                          have c244 := sf_ma kw242 (p := 44) rfl
                          have c245 := sf_ma kw242 (p := 62) rfl
                          clear kw242
                          have go : (sf_l w242 130 0).toInt = v241.toInt := by rw [uw242, show z1.toInt.toNat = 0 by omega]; unfold vp_updL; rw [if_pos rfl]
                          refine sf_iconst sf_c0 (fun z246 ez246 => ?_)
                          refine sf_ireturn rfl rfl ?_
                          exact hR _ _ Iw242 sw242 (by omega) (by omega) (by exact Or.inr (Or.inr (Or.inr ⟨by omega, by omega, ⟨by omega, ghg.mp (by omega)⟩, gca⟩))) (by rw [c244, c238, c232, c226, c220, c208]; exact Or.inl ⟨by omega, rfl⟩) (by rw [c245]; rw [c244, c238, c232, c226, c220, c208]; exact Or.inr ⟨by omega, gch⟩)
                      · refine sf_iconst sf_c0 (fun z247 ez247 => ?_)
                        refine sf_call1 rfl rfl rfl ?_
                        refine sf_sp (L := [(0, .inl (.int z247))]) rfl rfl ?_
                        refine sf_iload rfl ?_
                        refine sf_f1_eq (fun h248 => ?_) (fun h248 => absurd h248 (by omega))
                        refine sf_throw rfl rfl ?_
                        refine sf_xout rfl rfl ?_
                        refine sf_xhm rfl ?_
                        refine sf_xhh (L' := [(0, .inl (.ref 0)), (1, .inl (.int a_l1)), (2, .inl (.int a_l2)), (3, .inl (.int a_l3)), (4, .inl (.int a_l4)), (5, .inl (.ref 130))]) rfl rfl ?_
                        refine sf_iconst sf_c2 (fun z249 ez249 => ?_)
                        refine sf_ireturn rfl rfl ?_
                        exact hR _ _ hI0 hs0 (by omega) (by omega) (by exact Or.inr (Or.inl ⟨by omega, by omega, fun h9 => absurd (ghg.mpr h9.2) (by omega)⟩)) (by exact Or.inl ⟨by omega, rfl⟩) (by exact Or.inl ⟨by omega, rfl⟩)
              · refine sf_sw0 ?_
                refine sf_iconst sf_c0 (fun z250 ez250 => ?_)
                refine sf_zreturn (by omega) rfl rfl ?_
                refine sf_call1 rfl rfl rfl ?_
                refine sf_sp (L := [(0, .inl (.int z250))]) rfl rfl ?_
                refine sf_iload rfl ?_
                refine sf_f1_eq (fun h251 => ?_) (fun h251 => absurd h251 (by omega))
                refine sf_throw rfl rfl ?_
                refine sf_xout rfl rfl ?_
                refine sf_xhh (L' := [(0, .inl (.ref 0)), (1, .inl (.int a_l1)), (2, .inl (.int a_l2)), (3, .inl (.int a_l3)), (4, .inl (.int a_l4)), (5, .inl (.ref 130))]) rfl rfl ?_
                refine sf_iconst sf_c1 (fun z252 ez252 => ?_)
                refine sf_ireturn rfl rfl ?_
                exact hR _ _ hI0 hs0 (by omega) (by omega) (by exact Or.inl ⟨by omega, by omega⟩) (by exact Or.inl ⟨by omega, rfl⟩) (by exact Or.inl ⟨by omega, rfl⟩)
