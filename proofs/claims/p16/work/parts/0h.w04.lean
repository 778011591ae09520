def sm_W_release_0_130 : List Nat := [63, 67, 68, 130, 7700]
set_option maxRecDepth 100000 in
set_option maxHeartbeats 4000000 in
theorem sc_W_release_0_130 {w0 : wq_W} (hI0 : sf_I w0) {rt : Option wq_V → wq_W → Prop} {xt : Nat → wq_W → Prop} {a_l1 : Int32} {a_l2 : Int32} (p0 : sl_B (sf_a w0 62) (sf_a w0 63)) (hR : ∀ (r : Int32) (w : wq_W), sf_I w → sf_m sm_W_release_0_130 w0 w → 0 ≤ r.toInt → r.toInt ≤ 2 → (((r.toInt = 0 ∧ (0 ≤ a_l1.toInt ∧ a_l1.toInt ≤ 15 ∧ 1 ≤ a_l2.toInt ∧ a_l2.toInt ≤ 1000) ∧ (a_l2.toInt ≤ (sl_S (sl_mt (sf_a w0 61) (sf_a w0 65) a_l1.toInt 1) (sl_v (sf_a w0 62) (sf_a w0 63)) (sf_f w0 60 0).toInt.toNat)) ∧ a_l1.toInt = a_l1.toInt) ∨ (r.toInt = 1 ∧ ¬ (0 ≤ a_l1.toInt ∧ a_l1.toInt ≤ 15 ∧ 1 ≤ a_l2.toInt ∧ a_l2.toInt ≤ 1000)) ∨ (r.toInt = 2 ∧ (0 ≤ a_l1.toInt ∧ a_l1.toInt ≤ 15 ∧ 1 ≤ a_l2.toInt ∧ a_l2.toInt ≤ 1000) ∧ ¬ (a_l2.toInt ≤ (sl_S (sl_mt (sf_a w0 61) (sf_a w0 65) a_l1.toInt 1) (sl_v (sf_a w0 62) (sf_a w0 63)) (sf_f w0 60 0).toInt.toNat))))) → (((r.toInt ≠ 0 ∧ sf_a w 63 = sf_a w0 63) ∨ (r.toInt = 0 ∧ sl_T (sf_a w0 63) (sf_a w 63) (sl_mt (sf_a w0 61) (sf_a w0 65) a_l1.toInt 1) (sl_v (sf_a w0 62) (sf_a w0 63)) a_l2.toInt (sf_f w0 60 0).toInt.toNat))) → (((r.toInt ≠ 0 ∧ sf_a w 68 = sf_a w0 68) ∨ (r.toInt = 0 ∧ sf_a w 68 = upd (sf_a w0 68) a_l1.toInt.toNat (sf_a w0 68 a_l1.toInt.toNat + a_l2)))) → rt (some (.inl (.int r))) w) : ks_W_release [.inl (.ref 0), .inl (.int a_l1), .inl (.int a_l2), .inl (.ref 130)] w0 rt xt := by
  have hs0 : sf_m sm_W_release_0_130 w0 w0 := sf_m0
  refine sf_sp (L := [(0, .inl (.ref 0)), (1, .inl (.int a_l1)), (2, .inl (.int a_l2)), (3, .inl (.ref 130))]) rfl rfl ?_
  refine sf_aload rfl ?_
  refine sf_iconst sf_c0 (fun z1 ez1 => ?_)
  refine sf_aload rfl ?_
  refine sf_iload rfl ?_
  refine sf_iload rfl ?_
  refine sf_call3 rfl rfl rfl ?_
  refine sf_rv hI0 rfl ?_
  refine sf_sp (L := [(0, .inl (.ref 0)), (1, .inl (.int a_l1)), (2, .inl (.int a_l2))]) rfl rfl ?_
  refine sf_iload rfl ?_
  refine sf_call1 rfl rfl rfl ?_
  refine sf_sp (L := [(0, .inl (.int a_l1))]) rfl rfl ?_
  refine sf_iload rfl ?_
  refine sf_iconst sf_c16 (fun z2 ez2 => ?_)
  refine sf_call2 rfl rfl rfl ?_
  refine sf_sp (L := [(0, .inl (.int a_l1)), (1, .inl (.int z2))]) rfl rfl ?_
  refine sf_iconst sf_c0 (fun z3 ez3 => ?_)
  refine sf_iload rfl ?_
  refine sf_f2_gt (fun h4 => ?_) (fun h4 => ?_)
  · refine sf_iconst sf_c0 (fun z5 ez5 => ?_)
    refine sf_zreturn (by omega) rfl rfl ?_
    refine sf_zreturn (by omega) rfl rfl ?_
    refine sf_call1 rfl rfl rfl ?_
    refine sf_sp (L := [(0, .inl (.int z5))]) rfl rfl ?_
    refine sf_iload rfl ?_
    refine sf_f1_eq (fun h6 => ?_) (fun h6 => absurd h6 (by omega))
    refine sf_throw rfl rfl ?_
    refine sf_xout rfl rfl ?_
    refine sf_xhh (L' := [(0, .inl (.ref 0)), (1, .inl (.int a_l1)), (2, .inl (.int a_l2)), (3, .inl (.ref 130))]) rfl rfl ?_
    refine sf_iconst sf_c1 (fun z7 ez7 => ?_)
    refine sf_ireturn rfl rfl ?_
    exact hR _ _ hI0 hs0 (by omega) (by omega) (by first | (refine Or.inl ⟨by omega, ?_⟩; omega) | (refine Or.inr (Or.inl ⟨by omega, ?_⟩); omega) | (refine Or.inr (Or.inr ⟨by omega, ?_⟩); omega)) (by exact Or.inl ⟨by omega, rfl⟩) (by exact Or.inl ⟨by omega, rfl⟩)
  · refine sf_iload rfl ?_
    refine sf_iload rfl ?_
    refine sf_f2_ge (fun h8 => ?_) (fun h8 => ?_)
    · refine sf_iconst sf_c0 (fun z9 ez9 => ?_)
      refine sf_zreturn (by omega) rfl rfl ?_
      refine sf_zreturn (by omega) rfl rfl ?_
      refine sf_call1 rfl rfl rfl ?_
      refine sf_sp (L := [(0, .inl (.int z9))]) rfl rfl ?_
      refine sf_iload rfl ?_
      refine sf_f1_eq (fun h10 => ?_) (fun h10 => absurd h10 (by omega))
      refine sf_throw rfl rfl ?_
      refine sf_xout rfl rfl ?_
      refine sf_xhh (L' := [(0, .inl (.ref 0)), (1, .inl (.int a_l1)), (2, .inl (.int a_l2)), (3, .inl (.ref 130))]) rfl rfl ?_
      refine sf_iconst sf_c1 (fun z11 ez11 => ?_)
      refine sf_ireturn rfl rfl ?_
      exact hR _ _ hI0 hs0 (by omega) (by omega) (by first | (refine Or.inl ⟨by omega, ?_⟩; omega) | (refine Or.inr (Or.inl ⟨by omega, ?_⟩); omega) | (refine Or.inr (Or.inr ⟨by omega, ?_⟩); omega)) (by exact Or.inl ⟨by omega, rfl⟩) (by exact Or.inl ⟨by omega, rfl⟩)
    · refine sf_iconst sf_c1 (fun z12 ez12 => ?_)
      refine sf_zreturn (by omega) rfl rfl ?_
      refine sf_zreturn (by omega) rfl rfl ?_
      refine sf_call1 rfl rfl rfl ?_
      refine sf_sp (L := [(0, .inl (.int z12))]) rfl rfl ?_
      refine sf_iload rfl ?_
      refine sf_f1_eq (fun h13 => absurd h13 (by omega)) (fun h13 => ?_)
      refine sf_vreturn rfl rfl ?_
      refine sf_iload rfl ?_
      refine sf_iconst sf_c1 (fun z14 ez14 => ?_)
      refine sf_iconst sf_c1000 (fun z15 ez15 => ?_)
      refine sf_call3 rfl rfl rfl ?_
      refine sf_sp (L := [(0, .inl (.int a_l2)), (1, .inl (.int z14)), (2, .inl (.int z15))]) rfl rfl ?_
      refine sf_iload rfl ?_
      refine sf_iload rfl ?_
      refine sf_f2_gt (fun h16 => ?_) (fun h16 => ?_)
      · refine sf_iconst sf_c0 (fun z17 ez17 => ?_)
        refine sf_zreturn (by omega) rfl rfl ?_
        refine sf_call1 rfl rfl rfl ?_
        refine sf_sp (L := [(0, .inl (.int z17))]) rfl rfl ?_
        refine sf_iload rfl ?_
        refine sf_f1_eq (fun h18 => ?_) (fun h18 => absurd h18 (by omega))
        refine sf_throw rfl rfl ?_
        refine sf_xout rfl rfl ?_
        refine sf_xhh (L' := [(0, .inl (.ref 0)), (1, .inl (.int a_l1)), (2, .inl (.int a_l2)), (3, .inl (.ref 130))]) rfl rfl ?_
        refine sf_iconst sf_c1 (fun z19 ez19 => ?_)
        refine sf_ireturn rfl rfl ?_
        exact hR _ _ hI0 hs0 (by omega) (by omega) (by first | (refine Or.inl ⟨by omega, ?_⟩; omega) | (refine Or.inr (Or.inl ⟨by omega, ?_⟩); omega) | (refine Or.inr (Or.inr ⟨by omega, ?_⟩); omega)) (by exact Or.inl ⟨by omega, rfl⟩) (by exact Or.inl ⟨by omega, rfl⟩)
      · refine sf_iload rfl ?_
        refine sf_iload rfl ?_
        refine sf_f2_gt (fun h20 => ?_) (fun h20 => ?_)
        · refine sf_iconst sf_c0 (fun z21 ez21 => ?_)
          refine sf_zreturn (by omega) rfl rfl ?_
          refine sf_call1 rfl rfl rfl ?_
          refine sf_sp (L := [(0, .inl (.int z21))]) rfl rfl ?_
          refine sf_iload rfl ?_
          refine sf_f1_eq (fun h22 => ?_) (fun h22 => absurd h22 (by omega))
          refine sf_throw rfl rfl ?_
          refine sf_xout rfl rfl ?_
          refine sf_xhh (L' := [(0, .inl (.ref 0)), (1, .inl (.int a_l1)), (2, .inl (.int a_l2)), (3, .inl (.ref 130))]) rfl rfl ?_
          refine sf_iconst sf_c1 (fun z23 ez23 => ?_)
          refine sf_ireturn rfl rfl ?_
          exact hR _ _ hI0 hs0 (by omega) (by omega) (by first | (refine Or.inl ⟨by omega, ?_⟩; omega) | (refine Or.inr (Or.inl ⟨by omega, ?_⟩); omega) | (refine Or.inr (Or.inr ⟨by omega, ?_⟩); omega)) (by exact Or.inl ⟨by omega, rfl⟩) (by exact Or.inl ⟨by omega, rfl⟩)
        · refine sf_iconst sf_c1 (fun z24 ez24 => ?_)
          refine sf_zreturn (by omega) rfl rfl ?_
          refine sf_call1 rfl rfl rfl ?_
          refine sf_sp (L := [(0, .inl (.int z24))]) rfl rfl ?_
          refine sf_iload rfl ?_
          refine sf_f1_eq (fun h25 => absurd h25 (by omega)) (fun h25 => ?_)
          refine sf_vreturn rfl rfl ?_
          refine sf_aload rfl ?_
          refine sf_getr hI0 rfl rfl ?_
          refine sf_iload rfl ?_
          refine sf_iconst sf_c1 (fun z26 ez26 => ?_)
          refine sf_call3 rfl rfl rfl ?_
          refine sf_rv hI0 rfl ?_
          refine sc_L_unitsLeft hI0 (by omega) (by omega) (by exact p0) (fun v27 lv27 uv27 q28_0 => ?_)
          have gS := q28_0
          rw [show z26.toInt = 1 by omega] at gS
          refine sf_iload rfl ?_
          refine sf_f2_lt (fun h29 => ?_) (fun h29 => ?_)
          · refine sf_iconst sf_c0 (fun z30 ez30 => ?_)
            refine sf_call1 rfl rfl rfl ?_
            refine sf_sp (L := [(0, .inl (.int z30))]) rfl rfl ?_
            refine sf_iload rfl ?_
            refine sf_f1_eq (fun h31 => ?_) (fun h31 => absurd h31 (by omega))
            refine sf_throw rfl rfl ?_
            refine sf_xout rfl rfl ?_
            refine sf_xhm rfl ?_
            refine sf_xhh (L' := [(0, .inl (.ref 0)), (1, .inl (.int a_l1)), (2, .inl (.int a_l2)), (3, .inl (.ref 130))]) rfl rfl ?_
            refine sf_iconst sf_c2 (fun z32 ez32 => ?_)
            refine sf_ireturn rfl rfl ?_
            exact hR _ _ hI0 hs0 (by omega) (by omega) (by first | (refine Or.inl ⟨by omega, ?_⟩; omega) | (refine Or.inr (Or.inl ⟨by omega, ?_⟩); omega) | (refine Or.inr (Or.inr ⟨by omega, ?_⟩); omega)) (by exact Or.inl ⟨by omega, rfl⟩) (by exact Or.inl ⟨by omega, rfl⟩)
          · refine sf_iconst sf_c1 (fun z33 ez33 => ?_)
            refine sf_call1 rfl rfl rfl ?_
            refine sf_sp (L := [(0, .inl (.int z33))]) rfl rfl ?_
            refine sf_iload rfl ?_
            refine sf_f1_eq (fun h34 => absurd h34 (by omega)) (fun h34 => ?_)
            refine sf_vreturn rfl rfl ?_
            refine sf_aload rfl ?_
            refine sf_getr hI0 rfl rfl ?_
            refine sf_iload rfl ?_
            refine sf_iload rfl ?_
            refine sf_iconst sf_c1 (fun z35 ez35 => ?_)
            refine sf_call4 rfl rfl rfl ?_
            refine sf_rv hI0 rfl ?_
            refine sc_L_takeUnits hI0 (by omega) (by omega) (by omega) (by omega) (by exact p0) (fun v36 w37 Iw37 tw37 q38_0 => ?_)
            have s39 := sf_mt hs0 tw37 rfl
            have c40 := sf_ma tw37 (p := 68) rfl
            have gT := q38_0
            rw [show z35.toInt = 1 by omega] at gT
            refine sf_lstore (L' := [(0, .inl (.ref 0)), (1, .inl (.int a_l1)), (2, .inl (.int a_l2))]) rfl ?_
            refine sf_aload rfl ?_
            refine sf_getr Iw37 rfl rfl ?_
            refine sf_dup rfl ?_
            refine sf_getl Iw37 rfl rfl (fun v41 => ?_)
            refine sf_lload rfl ?_
            refine sf_l2 (fun v42 => ?_)
            refine sf_putl Iw37 s39 rfl rfl rfl rfl rfl (fun w43 Iw43 sw43 kw43 uw43 => ?_)
            have c44 := sf_ma kw43 (p := 63) rfl
            have c45 := sf_ma kw43 (p := 68) rfl
            clear kw43 uw43
            refine sf_aload rfl ?_
            refine sf_getr Iw43 rfl rfl ?_
            refine sf_getr Iw43 rfl rfl ?_
            refine sf_iload rfl ?_
            refine sf_dup2 rfl rfl ?_
            refine sf_iald Iw43 rfl (by omega) (fun v46 lv46 uv46 ev46 => ?_)
            clear lv46 uv46
            rw [c45, c40] at ev46
            refine sf_iload rfl ?_
            refine sf_i2e (fun v47 ev47 => ?_)
            refine sf_iast Iw43 sw43 rfl (by omega) (sf_bd _) rfl rfl (fun w48 Iw48 sw48 kw48 uw48 => ?_)
            have c49 := sf_ma kw48 (p := 63) rfl
            clear kw48
            have gR := uw48
            rw [c45, c40] at gR
            have gRv : v47 = sf_a w0 68 a_l1.toInt.toNat + a_l2 := by rw [ev47, sb_eq ev46]
            rw [gRv] at gR
            refine sf_lload rfl ?_
            refine sf_lreturn rfl rfl ?_
            refine sf_last Iw48 sw48 rfl (by omega) rfl rfl (fun w50 Iw50 sw50 kw50 uw50 => ?_)
            have c51 := sf_ma kw50 (p := 63) rfl
            have c52 := sf_ma kw50 (p := 68) rfl
            clear kw50
            have go : (sf_l w50 130 0).toInt = v36.toInt := by rw [uw50, show z1.toInt.toNat = 0 by omega]; unfold vp_updL; rw [if_pos rfl]
            refine sf_iconst sf_c0 (fun z53 ez53 => ?_)
            refine sf_ireturn rfl rfl ?_
            exact hR _ _ Iw50 sw50 (by omega) (by omega) (by first | (refine Or.inl ⟨by omega, ?_⟩; omega) | (refine Or.inr (Or.inl ⟨by omega, ?_⟩); omega) | (refine Or.inr (Or.inr ⟨by omega, ?_⟩); omega)) (by rw [c51, c49, c44]; exact Or.inr ⟨by omega, gT⟩) (by rw [c52]; exact Or.inr ⟨by omega, gR⟩)
def sm_W_export_0_130 : List Nat := [63, 67, 130, 7701]
set_option maxRecDepth 100000 in
set_option maxHeartbeats 4000000 in
theorem sc_W_export_0_130 {w0 : wq_W} (hI0 : sf_I w0) {rt : Option wq_V → wq_W → Prop} {xt : Nat → wq_W → Prop} {a_l1 : Int32} {a_l2 : Int32} (p0 : sl_B (sf_a w0 62) (sf_a w0 63)) (hR : ∀ (r : Int32) (w : wq_W), sf_I w → sf_m sm_W_export_0_130 w0 w → 0 ≤ r.toInt → r.toInt ≤ 2 → (((r.toInt = 0 ∧ (0 ≤ a_l1.toInt ∧ a_l1.toInt ≤ 15 ∧ 1 ≤ a_l2.toInt ∧ a_l2.toInt ≤ 1000) ∧ (a_l2.toInt ≤ (sl_S (sl_mt (sf_a w0 61) (sf_a w0 65) a_l1.toInt 0) (sl_v (sf_a w0 62) (sf_a w0 63)) (sf_f w0 60 0).toInt.toNat)) ∧ a_l1.toInt = a_l1.toInt) ∨ (r.toInt = 1 ∧ ¬ (0 ≤ a_l1.toInt ∧ a_l1.toInt ≤ 15 ∧ 1 ≤ a_l2.toInt ∧ a_l2.toInt ≤ 1000)) ∨ (r.toInt = 2 ∧ (0 ≤ a_l1.toInt ∧ a_l1.toInt ≤ 15 ∧ 1 ≤ a_l2.toInt ∧ a_l2.toInt ≤ 1000) ∧ ¬ (a_l2.toInt ≤ (sl_S (sl_mt (sf_a w0 61) (sf_a w0 65) a_l1.toInt 0) (sl_v (sf_a w0 62) (sf_a w0 63)) (sf_f w0 60 0).toInt.toNat))))) → (((r.toInt ≠ 0 ∧ sf_a w 63 = sf_a w0 63) ∨ (r.toInt = 0 ∧ sl_T (sf_a w0 63) (sf_a w 63) (sl_mt (sf_a w0 61) (sf_a w0 65) a_l1.toInt 0) (sl_v (sf_a w0 62) (sf_a w0 63)) a_l2.toInt (sf_f w0 60 0).toInt.toNat))) → rt (some (.inl (.int r))) w) : ks_W_export [.inl (.ref 0), .inl (.int a_l1), .inl (.int a_l2), .inl (.ref 130)] w0 rt xt := by
  have hs0 : sf_m sm_W_export_0_130 w0 w0 := sf_m0
  refine sf_sp (L := [(0, .inl (.ref 0)), (1, .inl (.int a_l1)), (2, .inl (.int a_l2)), (3, .inl (.ref 130))]) rfl rfl ?_
  refine sf_aload rfl ?_
  refine sf_iconst sf_c0 (fun z1 ez1 => ?_)
  refine sf_aload rfl ?_
  refine sf_iload rfl ?_
  refine sf_iload rfl ?_
  refine sf_call3 rfl rfl rfl ?_
  refine sf_rv hI0 rfl ?_
  refine sf_sp (L := [(0, .inl (.ref 0)), (1, .inl (.int a_l1)), (2, .inl (.int a_l2))]) rfl rfl ?_
  refine sf_iload rfl ?_
  refine sf_call1 rfl rfl rfl ?_
  refine sf_sp (L := [(0, .inl (.int a_l1))]) rfl rfl ?_
  refine sf_iload rfl ?_
  refine sf_iconst sf_c16 (fun z2 ez2 => ?_)
  refine sf_call2 rfl rfl rfl ?_
  refine sf_sp (L := [(0, .inl (.int a_l1)), (1, .inl (.int z2))]) rfl rfl ?_
  refine sf_iconst sf_c0 (fun z3 ez3 => ?_)
  refine sf_iload rfl ?_
  refine sf_f2_gt (fun h4 => ?_) (fun h4 => ?_)
  · refine sf_iconst sf_c0 (fun z5 ez5 => ?_)
    refine sf_zreturn (by omega) rfl rfl ?_
    refine sf_zreturn (by omega) rfl rfl ?_
    refine sf_call1 rfl rfl rfl ?_
    refine sf_sp (L := [(0, .inl (.int z5))]) rfl rfl ?_
    refine sf_iload rfl ?_
    refine sf_f1_eq (fun h6 => ?_) (fun h6 => absurd h6 (by omega))
    refine sf_throw rfl rfl ?_
    refine sf_xout rfl rfl ?_
    refine sf_xhh (L' := [(0, .inl (.ref 0)), (1, .inl (.int a_l1)), (2, .inl (.int a_l2)), (3, .inl (.ref 130))]) rfl rfl ?_
    refine sf_iconst sf_c1 (fun z7 ez7 => ?_)
    refine sf_ireturn rfl rfl ?_
    exact hR _ _ hI0 hs0 (by omega) (by omega) (by first | (refine Or.inl ⟨by omega, ?_⟩; omega) | (refine Or.inr (Or.inl ⟨by omega, ?_⟩); omega) | (refine Or.inr (Or.inr ⟨by omega, ?_⟩); omega)) (by exact Or.inl ⟨by omega, rfl⟩)
  · refine sf_iload rfl ?_
    refine sf_iload rfl ?_
    refine sf_f2_ge (fun h8 => ?_) (fun h8 => ?_)
    · refine sf_iconst sf_c0 (fun z9 ez9 => ?_)
      refine sf_zreturn (by omega) rfl rfl ?_
      refine sf_zreturn (by omega) rfl rfl ?_
      refine sf_call1 rfl rfl rfl ?_
      refine sf_sp (L := [(0, .inl (.int z9))]) rfl rfl ?_
      refine sf_iload rfl ?_
      refine sf_f1_eq (fun h10 => ?_) (fun h10 => absurd h10 (by omega))
      refine sf_throw rfl rfl ?_
      refine sf_xout rfl rfl ?_
      refine sf_xhh (L' := [(0, .inl (.ref 0)), (1, .inl (.int a_l1)), (2, .inl (.int a_l2)), (3, .inl (.ref 130))]) rfl rfl ?_
      refine sf_iconst sf_c1 (fun z11 ez11 => ?_)
      refine sf_ireturn rfl rfl ?_
      exact hR _ _ hI0 hs0 (by omega) (by omega) (by first | (refine Or.inl ⟨by omega, ?_⟩; omega) | (refine Or.inr (Or.inl ⟨by omega, ?_⟩); omega) | (refine Or.inr (Or.inr ⟨by omega, ?_⟩); omega)) (by exact Or.inl ⟨by omega, rfl⟩)
    · refine sf_iconst sf_c1 (fun z12 ez12 => ?_)
      refine sf_zreturn (by omega) rfl rfl ?_
      refine sf_zreturn (by omega) rfl rfl ?_
      refine sf_call1 rfl rfl rfl ?_
      refine sf_sp (L := [(0, .inl (.int z12))]) rfl rfl ?_
      refine sf_iload rfl ?_
      refine sf_f1_eq (fun h13 => absurd h13 (by omega)) (fun h13 => ?_)
      refine sf_vreturn rfl rfl ?_
      refine sf_iload rfl ?_
      refine sf_iconst sf_c1 (fun z14 ez14 => ?_)
      refine sf_iconst sf_c1000 (fun z15 ez15 => ?_)
      refine sf_call3 rfl rfl rfl ?_
      refine sf_sp (L := [(0, .inl (.int a_l2)), (1, .inl (.int z14)), (2, .inl (.int z15))]) rfl rfl ?_
      refine sf_iload rfl ?_
      refine sf_iload rfl ?_
      refine sf_f2_gt (fun h16 => ?_) (fun h16 => ?_)
      · refine sf_iconst sf_c0 (fun z17 ez17 => ?_)
        refine sf_zreturn (by omega) rfl rfl ?_
        refine sf_call1 rfl rfl rfl ?_
        refine sf_sp (L := [(0, .inl (.int z17))]) rfl rfl ?_
        refine sf_iload rfl ?_
        refine sf_f1_eq (fun h18 => ?_) (fun h18 => absurd h18 (by omega))
        refine sf_throw rfl rfl ?_
        refine sf_xout rfl rfl ?_
        refine sf_xhh (L' := [(0, .inl (.ref 0)), (1, .inl (.int a_l1)), (2, .inl (.int a_l2)), (3, .inl (.ref 130))]) rfl rfl ?_
        refine sf_iconst sf_c1 (fun z19 ez19 => ?_)
        refine sf_ireturn rfl rfl ?_
        exact hR _ _ hI0 hs0 (by omega) (by omega) (by first | (refine Or.inl ⟨by omega, ?_⟩; omega) | (refine Or.inr (Or.inl ⟨by omega, ?_⟩); omega) | (refine Or.inr (Or.inr ⟨by omega, ?_⟩); omega)) (by exact Or.inl ⟨by omega, rfl⟩)
      · refine sf_iload rfl ?_
        refine sf_iload rfl ?_
        refine sf_f2_gt (fun h20 => ?_) (fun h20 => ?_)
        · refine sf_iconst sf_c0 (fun z21 ez21 => ?_)
          refine sf_zreturn (by omega) rfl rfl ?_
          refine sf_call1 rfl rfl rfl ?_
          refine sf_sp (L := [(0, .inl (.int z21))]) rfl rfl ?_
          refine sf_iload rfl ?_
          refine sf_f1_eq (fun h22 => ?_) (fun h22 => absurd h22 (by omega))
          refine sf_throw rfl rfl ?_
          refine sf_xout rfl rfl ?_
          refine sf_xhh (L' := [(0, .inl (.ref 0)), (1, .inl (.int a_l1)), (2, .inl (.int a_l2)), (3, .inl (.ref 130))]) rfl rfl ?_
          refine sf_iconst sf_c1 (fun z23 ez23 => ?_)
          refine sf_ireturn rfl rfl ?_
          exact hR _ _ hI0 hs0 (by omega) (by omega) (by first | (refine Or.inl ⟨by omega, ?_⟩; omega) | (refine Or.inr (Or.inl ⟨by omega, ?_⟩); omega) | (refine Or.inr (Or.inr ⟨by omega, ?_⟩); omega)) (by exact Or.inl ⟨by omega, rfl⟩)
        · refine sf_iconst sf_c1 (fun z24 ez24 => ?_)
          refine sf_zreturn (by omega) rfl rfl ?_
          refine sf_call1 rfl rfl rfl ?_
          refine sf_sp (L := [(0, .inl (.int z24))]) rfl rfl ?_
          refine sf_iload rfl ?_
          refine sf_f1_eq (fun h25 => absurd h25 (by omega)) (fun h25 => ?_)
          refine sf_vreturn rfl rfl ?_
          refine sf_aload rfl ?_
          refine sf_getr hI0 rfl rfl ?_
          refine sf_iload rfl ?_
          refine sf_iconst sf_c0 (fun z26 ez26 => ?_)
          refine sf_call3 rfl rfl rfl ?_
          refine sf_rv hI0 rfl ?_
          refine sc_L_unitsLeft hI0 (by omega) (by omega) (by exact p0) (fun v27 lv27 uv27 q28_0 => ?_)
          have gS := q28_0
          rw [show z26.toInt = 0 by omega] at gS
          refine sf_iload rfl ?_
          refine sf_f2_lt (fun h29 => ?_) (fun h29 => ?_)
          · refine sf_iconst sf_c0 (fun z30 ez30 => ?_)
            refine sf_call1 rfl rfl rfl ?_
            refine sf_sp (L := [(0, .inl (.int z30))]) rfl rfl ?_
            refine sf_iload rfl ?_
            refine sf_f1_eq (fun h31 => ?_) (fun h31 => absurd h31 (by omega))
            refine sf_throw rfl rfl ?_
            refine sf_xout rfl rfl ?_
            refine sf_xhm rfl ?_
            refine sf_xhh (L' := [(0, .inl (.ref 0)), (1, .inl (.int a_l1)), (2, .inl (.int a_l2)), (3, .inl (.ref 130))]) rfl rfl ?_
            refine sf_iconst sf_c2 (fun z32 ez32 => ?_)
            refine sf_ireturn rfl rfl ?_
            exact hR _ _ hI0 hs0 (by omega) (by omega) (by first | (refine Or.inl ⟨by omega, ?_⟩; omega) | (refine Or.inr (Or.inl ⟨by omega, ?_⟩); omega) | (refine Or.inr (Or.inr ⟨by omega, ?_⟩); omega)) (by exact Or.inl ⟨by omega, rfl⟩)
          · refine sf_iconst sf_c1 (fun z33 ez33 => ?_)
            refine sf_call1 rfl rfl rfl ?_
            refine sf_sp (L := [(0, .inl (.int z33))]) rfl rfl ?_
            refine sf_iload rfl ?_
            refine sf_f1_eq (fun h34 => absurd h34 (by omega)) (fun h34 => ?_)
            refine sf_vreturn rfl rfl ?_
            refine sf_aload rfl ?_
            refine sf_getr hI0 rfl rfl ?_
            refine sf_iload rfl ?_
            refine sf_iload rfl ?_
            refine sf_iconst sf_c0 (fun z35 ez35 => ?_)
            refine sf_call4 rfl rfl rfl ?_
            refine sf_rv hI0 rfl ?_
            refine sc_L_takeUnits hI0 (by omega) (by omega) (by omega) (by omega) (by exact p0) (fun v36 w37 Iw37 tw37 q38_0 => ?_)
            have s39 := sf_mt hs0 tw37 rfl
            have gT := q38_0
            rw [show z35.toInt = 0 by omega] at gT
            refine sf_lstore (L' := [(0, .inl (.ref 0)), (1, .inl (.int a_l1)), (2, .inl (.int a_l2))]) rfl ?_
            refine sf_aload rfl ?_
            refine sf_getr Iw37 rfl rfl ?_
            refine sf_dup rfl ?_
            refine sf_getl Iw37 rfl rfl (fun v40 => ?_)
            refine sf_lload rfl ?_
            refine sf_l2 (fun v41 => ?_)
            refine sf_putl Iw37 s39 rfl rfl rfl rfl rfl (fun w42 Iw42 sw42 kw42 uw42 => ?_)
            have c43 := sf_ma kw42 (p := 63) rfl
            clear kw42 uw42
            refine sf_lload rfl ?_
            refine sf_lreturn rfl rfl ?_
            refine sf_last Iw42 sw42 rfl (by omega) rfl rfl (fun w44 Iw44 sw44 kw44 uw44 => ?_)
            have c45 := sf_ma kw44 (p := 63) rfl
            clear kw44
            have go : (sf_l w44 130 0).toInt = v36.toInt := by rw [uw44, show z1.toInt.toNat = 0 by omega]; unfold vp_updL; rw [if_pos rfl]
            refine sf_iconst sf_c0 (fun z46 ez46 => ?_)
            refine sf_ireturn rfl rfl ?_
            exact hR _ _ Iw44 sw44 (by omega) (by omega) (by first | (refine Or.inl ⟨by omega, ?_⟩; omega) | (refine Or.inr (Or.inl ⟨by omega, ?_⟩); omega) | (refine Or.inr (Or.inr ⟨by omega, ?_⟩); omega)) (by rw [c45, c43]; exact Or.inr ⟨by omega, gT⟩)
def sm_W_work_0_130 : List Nat := [60, 61, 62, 63, 64, 65, 66, 69, 70, 130, 7000]
set_option maxRecDepth 100000 in
set_option maxHeartbeats 4000000 in
theorem sc_W_work_0_130 {w0 : wq_W} (hI0 : sf_I w0) {rt : Option wq_V → wq_W → Prop} {xt : Nat → wq_W → Prop} {a_l1 : Int32} {a_l2 : Int32} {a_l3 : Int32} {a_l4 : Int32} (p0 : sl_B (sf_a w0 62) (sf_a w0 63)) (hR : ∀ (r : Int32) (w : wq_W), sf_I w → sf_m sm_W_work_0_130 w0 w → 0 ≤ r.toInt → r.toInt ≤ 3 → (((r.toInt = 0 ∧ (0 ≤ a_l1.toInt ∧ a_l1.toInt ≤ 15 ∧ 0 ≤ a_l3.toInt ∧ a_l3.toInt ≤ 15 ∧ a_l1.toInt ≠ a_l3.toInt ∧ 1 ≤ a_l4.toInt ∧ a_l4.toInt ≤ a_l2.toInt ∧ a_l2.toInt ≤ 1000) ∧ (a_l2.toInt ≤ (sl_S (sl_mt (sf_a w0 61) (sf_a w0 65) a_l1.toInt 1) (sl_v (sf_a w0 62) (sf_a w0 63)) (sf_f w0 60 0).toInt.toNat)) ∧ ((sf_f w0 60 0).toInt < 40) ∧ (sf_l w 130 0).toInt = (sf_f w0 60 0).toInt) ∨ (r.toInt = 1 ∧ ¬ (0 ≤ a_l1.toInt ∧ a_l1.toInt ≤ 15 ∧ 0 ≤ a_l3.toInt ∧ a_l3.toInt ≤ 15 ∧ a_l1.toInt ≠ a_l3.toInt ∧ 1 ≤ a_l4.toInt ∧ a_l4.toInt ≤ a_l2.toInt ∧ a_l2.toInt ≤ 1000)) ∨ (r.toInt = 2 ∧ (0 ≤ a_l1.toInt ∧ a_l1.toInt ≤ 15 ∧ 0 ≤ a_l3.toInt ∧ a_l3.toInt ≤ 15 ∧ a_l1.toInt ≠ a_l3.toInt ∧ 1 ≤ a_l4.toInt ∧ a_l4.toInt ≤ a_l2.toInt ∧ a_l2.toInt ≤ 1000) ∧ ¬ (a_l2.toInt ≤ (sl_S (sl_mt (sf_a w0 61) (sf_a w0 65) a_l1.toInt 1) (sl_v (sf_a w0 62) (sf_a w0 63)) (sf_f w0 60 0).toInt.toNat))) ∨ (r.toInt = 3 ∧ (0 ≤ a_l1.toInt ∧ a_l1.toInt ≤ 15 ∧ 0 ≤ a_l3.toInt ∧ a_l3.toInt ≤ 15 ∧ a_l1.toInt ≠ a_l3.toInt ∧ 1 ≤ a_l4.toInt ∧ a_l4.toInt ≤ a_l2.toInt ∧ a_l2.toInt ≤ 1000) ∧ (a_l2.toInt ≤ (sl_S (sl_mt (sf_a w0 61) (sf_a w0 65) a_l1.toInt 1) (sl_v (sf_a w0 62) (sf_a w0 63)) (sf_f w0 60 0).toInt.toNat)) ∧ ¬ ((sf_f w0 60 0).toInt < 40)))) → (((r.toInt ≠ 0 ∧ sf_a w 63 = sf_a w0 63) ∨ (r.toInt = 0 ∧ sl_T (sf_a w0 63) (sf_a w 63) (sl_mt (sf_a w0 61) (sf_a w0 65) a_l1.toInt 1) (sl_v (sf_a w0 62) (sf_a w0 63)) a_l2.toInt (sf_f w0 60 0).toInt.toNat))) → (((r.toInt ≠ 0 ∧ sf_a w 69 = sf_a w0 69) ∨ (r.toInt = 0 ∧ sf_a w 69 = upd (sf_a w0 69) a_l1.toInt.toNat (sf_a w0 69 a_l1.toInt.toNat + a_l2)))) → (((r.toInt ≠ 0 ∧ sf_a w 70 = sf_a w0 70) ∨ (r.toInt = 0 ∧ sf_a w 70 = upd (sf_a w0 70) a_l1.toInt.toNat (sf_a w0 70 a_l1.toInt.toNat + (a_l2 - a_l4))))) → (sl_AF r.toInt (sf_f w0 60 0) (sf_f w 60 0) (sf_a w0 61) (sf_a w 61) (sf_a w0 62) (sf_a w 62) (sf_a w0 65) (sf_a w 65) (sf_a w0 66) (sf_a w 66) a_l3.toInt a_l4.toInt) → rt (some (.inl (.int r))) w) : ks_W_work [.inl (.ref 0), .inl (.int a_l1), .inl (.int a_l2), .inl (.int a_l3), .inl (.int a_l4), .inl (.ref 130)] w0 rt xt := by
  have hs0 : sf_m sm_W_work_0_130 w0 w0 := sf_m0
  refine sf_sp (L := [(0, .inl (.ref 0)), (1, .inl (.int a_l1)), (2, .inl (.int a_l2)), (3, .inl (.int a_l3)), (4, .inl (.int a_l4)), (5, .inl (.ref 130))]) rfl rfl ?_
  refine sf_aload rfl ?_
  refine sf_iconst sf_c0 (fun z1 ez1 => ?_)
  refine sf_aload rfl ?_
  refine sf_iload rfl ?_
  refine sf_iload rfl ?_
  refine sf_iload rfl ?_
  refine sf_iload rfl ?_
  refine sf_call5 rfl rfl rfl ?_
  refine sf_rv hI0 rfl ?_
  refine sf_sp (L := [(0, .inl (.ref 0)), (1, .inl (.int a_l1)), (2, .inl (.int a_l2)), (3, .inl (.int a_l3)), (4, .inl (.int a_l4))]) rfl rfl ?_
  refine sf_iload rfl ?_
  refine sf_call1 rfl rfl rfl ?_
  refine sf_sp (L := [(0, .inl (.int a_l1))]) rfl rfl ?_
  refine sf_iload rfl ?_
  refine sf_iconst sf_c16 (fun z2 ez2 => ?_)
  refine sf_call2 rfl rfl rfl ?_
  refine sf_sp (L := [(0, .inl (.int a_l1)), (1, .inl (.int z2))]) rfl rfl ?_
  refine sf_iconst sf_c0 (fun z3 ez3 => ?_)
  refine sf_iload rfl ?_
  refine sf_f2_gt (fun h4 => ?_) (fun h4 => ?_)
  · refine sf_iconst sf_c0 (fun z5 ez5 => ?_)
    refine sf_zreturn (by omega) rfl rfl ?_
    refine sf_zreturn (by omega) rfl rfl ?_
    refine sf_f1_eq (fun h6 => ?_) (fun h6 => absurd h6 (by omega))
    refine sf_iconst sf_c0 (fun z7 ez7 => ?_)
    refine sf_call1 rfl rfl rfl ?_
    refine sf_sp (L := [(0, .inl (.int z7))]) rfl rfl ?_
    refine sf_iload rfl ?_
    refine sf_f1_eq (fun h8 => ?_) (fun h8 => absurd h8 (by omega))
    refine sf_throw rfl rfl ?_
    refine sf_xout rfl rfl ?_
    refine sf_xhh (L' := [(0, .inl (.ref 0)), (1, .inl (.int a_l1)), (2, .inl (.int a_l2)), (3, .inl (.int a_l3)), (4, .inl (.int a_l4)), (5, .inl (.ref 130))]) rfl rfl ?_
    refine sf_iconst sf_c1 (fun z9 ez9 => ?_)
    refine sf_ireturn rfl rfl ?_
    exact hR _ _ hI0 hs0 (by omega) (by omega) (by refine Or.inr (Or.inl ⟨by omega, ?_⟩); omega) (by exact Or.inl ⟨by omega, rfl⟩) (by exact Or.inl ⟨by omega, rfl⟩) (by exact Or.inl ⟨by omega, rfl⟩) (by exact Or.inl ⟨by omega, rfl, rfl, rfl, rfl, rfl⟩)
  · refine sf_iload rfl ?_
    refine sf_iload rfl ?_
    refine sf_f2_ge (fun h10 => ?_) (fun h10 => ?_)
    · refine sf_iconst sf_c0 (fun z11 ez11 => ?_)
      refine sf_zreturn (by omega) rfl rfl ?_
      refine sf_zreturn (by omega) rfl rfl ?_
      refine sf_f1_eq (fun h12 => ?_) (fun h12 => absurd h12 (by omega))
      refine sf_iconst sf_c0 (fun z13 ez13 => ?_)
      refine sf_call1 rfl rfl rfl ?_
      refine sf_sp (L := [(0, .inl (.int z13))]) rfl rfl ?_
      refine sf_iload rfl ?_
      refine sf_f1_eq (fun h14 => ?_) (fun h14 => absurd h14 (by omega))
      refine sf_throw rfl rfl ?_
      refine sf_xout rfl rfl ?_
      refine sf_xhh (L' := [(0, .inl (.ref 0)), (1, .inl (.int a_l1)), (2, .inl (.int a_l2)), (3, .inl (.int a_l3)), (4, .inl (.int a_l4)), (5, .inl (.ref 130))]) rfl rfl ?_
      refine sf_iconst sf_c1 (fun z15 ez15 => ?_)
      refine sf_ireturn rfl rfl ?_
      exact hR _ _ hI0 hs0 (by omega) (by omega) (by refine Or.inr (Or.inl ⟨by omega, ?_⟩); omega) (by exact Or.inl ⟨by omega, rfl⟩) (by exact Or.inl ⟨by omega, rfl⟩) (by exact Or.inl ⟨by omega, rfl⟩) (by exact Or.inl ⟨by omega, rfl, rfl, rfl, rfl, rfl⟩)
    · refine sf_iconst sf_c1 (fun z16 ez16 => ?_)
      refine sf_zreturn (by omega) rfl rfl ?_
      refine sf_zreturn (by omega) rfl rfl ?_
      refine sf_f1_eq (fun h17 => absurd h17 (by omega)) (fun h17 => ?_)
      refine sf_iload rfl ?_
      refine sf_call1 rfl rfl rfl ?_
      refine sf_sp (L := [(0, .inl (.int a_l3))]) rfl rfl ?_
      refine sf_iload rfl ?_
      refine sf_iconst sf_c16 (fun z18 ez18 => ?_)
      refine sf_call2 rfl rfl rfl ?_
      refine sf_sp (L := [(0, .inl (.int a_l3)), (1, .inl (.int z18))]) rfl rfl ?_
      refine sf_iconst sf_c0 (fun z19 ez19 => ?_)
      refine sf_iload rfl ?_
      refine sf_f2_gt (fun h20 => ?_) (fun h20 => ?_)
      · refine sf_iconst sf_c0 (fun z21 ez21 => ?_)
        refine sf_zreturn (by omega) rfl rfl ?_
        refine sf_zreturn (by omega) rfl rfl ?_
        refine sf_f1_eq (fun h22 => ?_) (fun h22 => absurd h22 (by omega))
        refine sf_iconst sf_c0 (fun z23 ez23 => ?_)
        refine sf_call1 rfl rfl rfl ?_
        refine sf_sp (L := [(0, .inl (.int z23))]) rfl rfl ?_
        refine sf_iload rfl ?_
        refine sf_f1_eq (fun h24 => ?_) (fun h24 => absurd h24 (by omega))
        refine sf_throw rfl rfl ?_
        refine sf_xout rfl rfl ?_
        refine sf_xhh (L' := [(0, .inl (.ref 0)), (1, .inl (.int a_l1)), (2, .inl (.int a_l2)), (3, .inl (.int a_l3)), (4, .inl (.int a_l4)), (5, .inl (.ref 130))]) rfl rfl ?_
        refine sf_iconst sf_c1 (fun z25 ez25 => ?_)
        refine sf_ireturn rfl rfl ?_
        exact hR _ _ hI0 hs0 (by omega) (by omega) (by refine Or.inr (Or.inl ⟨by omega, ?_⟩); omega) (by exact Or.inl ⟨by omega, rfl⟩) (by exact Or.inl ⟨by omega, rfl⟩) (by exact Or.inl ⟨by omega, rfl⟩) (by exact Or.inl ⟨by omega, rfl, rfl, rfl, rfl, rfl⟩)
      · refine sf_iload rfl ?_
        refine sf_iload rfl ?_
        refine sf_f2_ge (fun h26 => ?_) (fun h26 => ?_)
        · refine sf_iconst sf_c0 (fun z27 ez27 => ?_)
          refine sf_zreturn (by omega) rfl rfl ?_
          refine sf_zreturn (by omega) rfl rfl ?_
          refine sf_f1_eq (fun h28 => ?_) (fun h28 => absurd h28 (by omega))
          refine sf_iconst sf_c0 (fun z29 ez29 => ?_)
          refine sf_call1 rfl rfl rfl ?_
          refine sf_sp (L := [(0, .inl (.int z29))]) rfl rfl ?_
          refine sf_iload rfl ?_
          refine sf_f1_eq (fun h30 => ?_) (fun h30 => absurd h30 (by omega))
          refine sf_throw rfl rfl ?_
          refine sf_xout rfl rfl ?_
          refine sf_xhh (L' := [(0, .inl (.ref 0)), (1, .inl (.int a_l1)), (2, .inl (.int a_l2)), (3, .inl (.int a_l3)), (4, .inl (.int a_l4)), (5, .inl (.ref 130))]) rfl rfl ?_
          refine sf_iconst sf_c1 (fun z31 ez31 => ?_)
          refine sf_ireturn rfl rfl ?_
          exact hR _ _ hI0 hs0 (by omega) (by omega) (by refine Or.inr (Or.inl ⟨by omega, ?_⟩); omega) (by exact Or.inl ⟨by omega, rfl⟩) (by exact Or.inl ⟨by omega, rfl⟩) (by exact Or.inl ⟨by omega, rfl⟩) (by exact Or.inl ⟨by omega, rfl, rfl, rfl, rfl, rfl⟩)
        · refine sf_iconst sf_c1 (fun z32 ez32 => ?_)
          refine sf_zreturn (by omega) rfl rfl ?_
          refine sf_zreturn (by omega) rfl rfl ?_
          refine sf_f1_eq (fun h33 => absurd h33 (by omega)) (fun h33 => ?_)
          refine sf_iload rfl ?_
          refine sf_iload rfl ?_
          refine sf_f2_eq (fun h34 => ?_) (fun h34 => ?_)
          · refine sf_iconst sf_c0 (fun z35 ez35 => ?_)
            refine sf_call1 rfl rfl rfl ?_
            refine sf_sp (L := [(0, .inl (.int z35))]) rfl rfl ?_
            refine sf_iload rfl ?_
            refine sf_f1_eq (fun h36 => ?_) (fun h36 => absurd h36 (by omega))
            refine sf_throw rfl rfl ?_
            refine sf_xout rfl rfl ?_
            refine sf_xhh (L' := [(0, .inl (.ref 0)), (1, .inl (.int a_l1)), (2, .inl (.int a_l2)), (3, .inl (.int a_l3)), (4, .inl (.int a_l4)), (5, .inl (.ref 130))]) rfl rfl ?_
            refine sf_iconst sf_c1 (fun z37 ez37 => ?_)
            refine sf_ireturn rfl rfl ?_
            exact hR _ _ hI0 hs0 (by omega) (by omega) (by refine Or.inr (Or.inl ⟨by omega, ?_⟩); omega) (by exact Or.inl ⟨by omega, rfl⟩) (by exact Or.inl ⟨by omega, rfl⟩) (by exact Or.inl ⟨by omega, rfl⟩) (by exact Or.inl ⟨by omega, rfl, rfl, rfl, rfl, rfl⟩)
          · refine sf_iconst sf_c1 (fun z38 ez38 => ?_)
            refine sf_call1 rfl rfl rfl ?_
            refine sf_sp (L := [(0, .inl (.int z38))]) rfl rfl ?_
            refine sf_iload rfl ?_
            refine sf_f1_eq (fun h39 => absurd h39 (by omega)) (fun h39 => ?_)
            refine sf_vreturn rfl rfl ?_
            refine sf_iconst sf_c1 (fun z40 ez40 => ?_)
            refine sf_iload rfl ?_
            refine sf_f2_gt (fun h41 => ?_) (fun h41 => ?_)
            · refine sf_iconst sf_c0 (fun z42 ez42 => ?_)
              refine sf_call1 rfl rfl rfl ?_
              refine sf_sp (L := [(0, .inl (.int z42))]) rfl rfl ?_
              refine sf_iload rfl ?_
              refine sf_f1_eq (fun h43 => ?_) (fun h43 => absurd h43 (by omega))
              refine sf_throw rfl rfl ?_
              refine sf_xout rfl rfl ?_
              refine sf_xhh (L' := [(0, .inl (.ref 0)), (1, .inl (.int a_l1)), (2, .inl (.int a_l2)), (3, .inl (.int a_l3)), (4, .inl (.int a_l4)), (5, .inl (.ref 130))]) rfl rfl ?_
              refine sf_iconst sf_c1 (fun z44 ez44 => ?_)
              refine sf_ireturn rfl rfl ?_
              exact hR _ _ hI0 hs0 (by omega) (by omega) (by refine Or.inr (Or.inl ⟨by omega, ?_⟩); omega) (by exact Or.inl ⟨by omega, rfl⟩) (by exact Or.inl ⟨by omega, rfl⟩) (by exact Or.inl ⟨by omega, rfl⟩) (by exact Or.inl ⟨by omega, rfl, rfl, rfl, rfl, rfl⟩)
            · refine sf_iload rfl ?_
              refine sf_iload rfl ?_
              refine sf_f2_gt (fun h45 => ?_) (fun h45 => ?_)
              · refine sf_iconst sf_c0 (fun z46 ez46 => ?_)
                refine sf_call1 rfl rfl rfl ?_
                refine sf_sp (L := [(0, .inl (.int z46))]) rfl rfl ?_
                refine sf_iload rfl ?_
                refine sf_f1_eq (fun h47 => ?_) (fun h47 => absurd h47 (by omega))
                refine sf_throw rfl rfl ?_
                refine sf_xout rfl rfl ?_
                refine sf_xhh (L' := [(0, .inl (.ref 0)), (1, .inl (.int a_l1)), (2, .inl (.int a_l2)), (3, .inl (.int a_l3)), (4, .inl (.int a_l4)), (5, .inl (.ref 130))]) rfl rfl ?_
                refine sf_iconst sf_c1 (fun z48 ez48 => ?_)
                refine sf_ireturn rfl rfl ?_
                exact hR _ _ hI0 hs0 (by omega) (by omega) (by refine Or.inr (Or.inl ⟨by omega, ?_⟩); omega) (by exact Or.inl ⟨by omega, rfl⟩) (by exact Or.inl ⟨by omega, rfl⟩) (by exact Or.inl ⟨by omega, rfl⟩) (by exact Or.inl ⟨by omega, rfl, rfl, rfl, rfl, rfl⟩)
              · refine sf_iload rfl ?_
                refine sf_iconst sf_c1000 (fun z49 ez49 => ?_)
                refine sf_f2_gt (fun h50 => ?_) (fun h50 => ?_)
                · refine sf_iconst sf_c0 (fun z51 ez51 => ?_)
                  refine sf_call1 rfl rfl rfl ?_
                  refine sf_sp (L := [(0, .inl (.int z51))]) rfl rfl ?_
                  refine sf_iload rfl ?_
                  refine sf_f1_eq (fun h52 => ?_) (fun h52 => absurd h52 (by omega))
                  refine sf_throw rfl rfl ?_
                  refine sf_xout rfl rfl ?_
                  refine sf_xhh (L' := [(0, .inl (.ref 0)), (1, .inl (.int a_l1)), (2, .inl (.int a_l2)), (3, .inl (.int a_l3)), (4, .inl (.int a_l4)), (5, .inl (.ref 130))]) rfl rfl ?_
                  refine sf_iconst sf_c1 (fun z53 ez53 => ?_)
                  refine sf_ireturn rfl rfl ?_
                  exact hR _ _ hI0 hs0 (by omega) (by omega) (by refine Or.inr (Or.inl ⟨by omega, ?_⟩); omega) (by exact Or.inl ⟨by omega, rfl⟩) (by exact Or.inl ⟨by omega, rfl⟩) (by exact Or.inl ⟨by omega, rfl⟩) (by exact Or.inl ⟨by omega, rfl, rfl, rfl, rfl, rfl⟩)
                · refine sf_iconst sf_c1 (fun z54 ez54 => ?_)
                  refine sf_call1 rfl rfl rfl ?_
                  refine sf_sp (L := [(0, .inl (.int z54))]) rfl rfl ?_
                  refine sf_iload rfl ?_
                  refine sf_f1_eq (fun h55 => absurd h55 (by omega)) (fun h55 => ?_)
                  refine sf_vreturn rfl rfl ?_
                  refine sf_aload rfl ?_
                  refine sf_getr hI0 rfl rfl ?_
                  refine sf_iload rfl ?_
                  refine sf_iconst sf_c1 (fun z56 ez56 => ?_)
                  refine sf_call3 rfl rfl rfl ?_
                  refine sf_rv hI0 rfl ?_
                  refine sc_L_unitsLeft hI0 (by omega) (by omega) (by exact p0) (fun v57 lv57 uv57 q58_0 => ?_)
                  have gS := q58_0
                  rw [show z56.toInt = 1 by omega] at gS
                  refine sf_iload rfl ?_
                  refine sf_f2_lt (fun h59 => ?_) (fun h59 => ?_)
                  · refine sf_iconst sf_c0 (fun z60 ez60 => ?_)
                    refine sf_call1 rfl rfl rfl ?_
                    refine sf_sp (L := [(0, .inl (.int z60))]) rfl rfl ?_
                    refine sf_iload rfl ?_
                    refine sf_f1_eq (fun h61 => ?_) (fun h61 => absurd h61 (by omega))
                    refine sf_throw rfl rfl ?_
                    refine sf_xout rfl rfl ?_
                    refine sf_xhm rfl ?_
                    refine sf_xhh (L' := [(0, .inl (.ref 0)), (1, .inl (.int a_l1)), (2, .inl (.int a_l2)), (3, .inl (.int a_l3)), (4, .inl (.int a_l4)), (5, .inl (.ref 130))]) rfl rfl ?_
                    refine sf_iconst sf_c2 (fun z62 ez62 => ?_)
                    refine sf_ireturn rfl rfl ?_
                    exact hR _ _ hI0 hs0 (by omega) (by omega) (by refine Or.inr (Or.inr (Or.inl ⟨by omega, ?_⟩)); omega) (by exact Or.inl ⟨by omega, rfl⟩) (by exact Or.inl ⟨by omega, rfl⟩) (by exact Or.inl ⟨by omega, rfl⟩) (by exact Or.inl ⟨by omega, rfl, rfl, rfl, rfl, rfl⟩)
                  · refine sf_iconst sf_c1 (fun z63 ez63 => ?_)
                    refine sf_call1 rfl rfl rfl ?_
                    refine sf_sp (L := [(0, .inl (.int z63))]) rfl rfl ?_
                    refine sf_iload rfl ?_
                    refine sf_f1_eq (fun h64 => absurd h64 (by omega)) (fun h64 => ?_)
                    refine sf_vreturn rfl rfl ?_
                    refine sf_aload rfl ?_
                    refine sf_getr hI0 rfl rfl ?_
                    refine sf_geti hI0 rfl rfl (fun v65 lv65 uv65 ev65 => ?_)
                    refine sf_iconst sf_c1 (fun z66 ez66 => ?_)
                    refine sf_iadd (by omega) (fun v67 ev67 => ?_)
                    refine sf_call1 rfl rfl rfl ?_
                    refine sf_sp (L := [(0, .inl (.int v67))]) rfl rfl ?_
                    refine sf_iload rfl ?_
                    refine sf_iconst sf_c40 (fun z68 ez68 => ?_)
                    refine sf_f2_le (fun h69 => ?_) (fun h69 => ?_)
                    · refine sf_vreturn rfl rfl ?_
                      refine sf_aload rfl ?_
                      refine sf_getr hI0 rfl rfl ?_
                      refine sf_iload rfl ?_
                      refine sf_iload rfl ?_
                      refine sf_iconst sf_c1 (fun z70 ez70 => ?_)
                      refine sf_call4 rfl rfl rfl ?_
                      refine sf_rv hI0 rfl ?_
                      refine sc_L_takeUnits hI0 (by omega) (by omega) (by omega) (by omega) (by exact p0) (fun v71 w72 Iw72 tw72 q73_0 => ?_)
                      have s74 := sf_mt hs0 tw72 rfl
                      have c75 := sf_mf tw72 (p := 60) (j := 0) rfl
                      have c76 := sf_ma tw72 (p := 69) rfl
                      have c77 := sf_ma tw72 (p := 70) rfl
                      have c78 := sf_ma tw72 (p := 61) rfl
                      have c79 := sf_ma tw72 (p := 62) rfl
                      have c80 := sf_ma tw72 (p := 65) rfl
                      have c81 := sf_ma tw72 (p := 66) rfl
                      have gT := q73_0
                      rw [show z70.toInt = 1 by omega] at gT
                      refine sf_lstore (L' := [(0, .inl (.ref 0)), (1, .inl (.int a_l1)), (2, .inl (.int a_l2)), (3, .inl (.int a_l3)), (4, .inl (.int a_l4))]) rfl ?_
                      refine sf_aload rfl ?_
                      refine sf_getr Iw72 rfl rfl ?_
                      refine sf_getr Iw72 rfl rfl ?_
                      refine sf_iload rfl ?_
                      refine sf_dup2 rfl rfl ?_
                      refine sf_iald Iw72 rfl (by omega) (fun v82 lv82 uv82 ev82 => ?_)
                      clear lv82 uv82
                      rw [c76] at ev82
                      refine sf_iload rfl ?_
                      refine sf_i2e (fun v83 ev83 => ?_)
                      refine sf_iast Iw72 s74 rfl (by omega) (sf_bd _) rfl rfl (fun w84 Iw84 sw84 kw84 uw84 => ?_)
                      have c85 := sf_mf kw84 (p := 60) (j := 0) rfl
                      have c86 := sf_ma kw84 (p := 63) rfl
                      have c87 := sf_ma kw84 (p := 70) rfl
                      have c88 := sf_ma kw84 (p := 61) rfl
                      have c89 := sf_ma kw84 (p := 62) rfl
                      have c90 := sf_ma kw84 (p := 65) rfl
                      have c91 := sf_ma kw84 (p := 66) rfl
                      clear kw84
                      have gW := uw84
                      rw [c76] at gW
                      have gWv : v83 = sf_a w0 69 a_l1.toInt.toNat + a_l2 := by rw [ev83, sb_eq ev82]
                      rw [gWv] at gW
                      refine sf_aload rfl ?_
                      refine sf_getr Iw84 rfl rfl ?_
                      refine sf_getr Iw84 rfl rfl ?_
                      refine sf_iload rfl ?_
                      refine sf_dup2 rfl rfl ?_
                      refine sf_iald Iw84 rfl (by omega) (fun v92 lv92 uv92 ev92 => ?_)
                      clear lv92 uv92
                      rw [c87, c77] at ev92
                      refine sf_iload rfl ?_
                      refine sf_iload rfl ?_
                      refine sf_i2e (fun v93 ev93 => ?_)
                      refine sf_i2e (fun v94 ev94 => ?_)
                      refine sf_iast Iw84 sw84 rfl (by omega) (sf_bd _) rfl rfl (fun w95 Iw95 sw95 kw95 uw95 => ?_)
                      have c96 := sf_mf kw95 (p := 60) (j := 0) rfl
                      have c97 := sf_ma kw95 (p := 63) rfl
                      have c98 := sf_ma kw95 (p := 69) rfl
                      have c99 := sf_ma kw95 (p := 61) rfl
                      have c100 := sf_ma kw95 (p := 62) rfl
                      have c101 := sf_ma kw95 (p := 65) rfl
                      have c102 := sf_ma kw95 (p := 66) rfl
                      clear kw95
                      have gL := uw95
                      rw [c87, c77] at gL
                      have gLv : v94 = sf_a w0 70 a_l1.toInt.toNat + (a_l2 - a_l4) := by rw [ev94, sb_eq ev92, ev93]
                      rw [gLv] at gL
                      refine sf_aload rfl ?_
                      refine sf_getr Iw95 rfl rfl ?_
                      refine sf_iload rfl ?_
                      refine sf_iload rfl ?_
                      refine sf_lload rfl ?_
                      refine sf_iconst sf_c1 (fun z103 ez103 => ?_)
                      refine sf_iconst sf_c1 (fun z104 ez104 => ?_)
                      refine sf_call6 rfl rfl rfl ?_
                      refine sf_rv Iw95 rfl ?_
                      refine sc_L_add Iw95 (by omega) (by omega) (by omega) (by omega) (by rw [c96, c85, c75]; omega) (fun v105 w106 Iw106 tw106 lv105 uv105 q107_0 q107_1 q107_2 q107_3 q107_4 q107_5 => ?_)
                      rw [c96, c85, c75] at q107_0
                      rw [c99, c88, c78] at q107_1
                      rw [c96, c85, c75] at q107_1
                      rw [c100, c89, c79] at q107_2
                      rw [c96, c85, c75] at q107_2
                      rw [c101, c90, c80] at q107_3
                      rw [c96, c85, c75] at q107_3
                      rw [c102, c91, c81] at q107_4
                      rw [c96, c85, c75] at q107_4
                      rw [c96, c85, c75] at q107_5
                      have s108 := sf_mt sw95 tw106 rfl
                      have c109 := sf_ma tw106 (p := 63) rfl
                      have c110 := sf_ma tw106 (p := 69) rfl
                      have c111 := sf_ma tw106 (p := 70) rfl
                      have gA0 := q107_1
                      have gA1 := q107_2
                      have gA2 := q107_3
                      have gA3 := q107_4
                      refine sf_ireturn rfl rfl ?_
                      refine sf_i2l (fun v112 ev112 => ?_)
                      refine sf_last Iw106 s108 rfl (by omega) rfl rfl (fun w113 Iw113 sw113 kw113 uw113 => ?_)
                      have c114 := sf_mf kw113 (p := 60) (j := 0) rfl
                      have c115 := sf_ma kw113 (p := 63) rfl
                      have c116 := sf_ma kw113 (p := 69) rfl
                      have c117 := sf_ma kw113 (p := 70) rfl
                      have c118 := sf_ma kw113 (p := 61) rfl
                      have c119 := sf_ma kw113 (p := 62) rfl
                      have c120 := sf_ma kw113 (p := 65) rfl
                      have c121 := sf_ma kw113 (p := 66) rfl
                      clear kw113
                      have go : (sf_l w113 130 0).toInt = v112.toInt := by rw [uw113, show z1.toInt.toNat = 0 by omega]; unfold vp_updL; rw [if_pos rfl]
                      refine sf_iconst sf_c0 (fun z122 ez122 => ?_)
                      refine sf_ireturn rfl rfl ?_
                      exact hR _ _ Iw113 sw113 (by omega) (by omega) (by refine Or.inl ⟨by omega, ?_⟩; omega) (by rw [c115, c109, c97, c86]; exact Or.inr ⟨by omega, gT⟩) (by rw [c116, c110, c98]; exact Or.inr ⟨by omega, gW⟩) (by rw [c117, c111]; exact Or.inr ⟨by omega, gL⟩) (by rw [c114]; rw [c118]; rw [c119]; rw [c120]; rw [c121]; exact Or.inr ⟨by omega, by omega, ⟨_, by omega, gA0⟩, ⟨_, by omega, gA1⟩, ⟨_, by omega, gA2⟩, ⟨_, by omega, gA3⟩⟩)
                    · refine sf_throw rfl rfl ?_
                      refine sf_xout rfl rfl ?_
                      refine sf_xhm rfl ?_
                      refine sf_xhm rfl ?_
                      refine sf_xhh (L' := [(0, .inl (.ref 0)), (1, .inl (.int a_l1)), (2, .inl (.int a_l2)), (3, .inl (.int a_l3)), (4, .inl (.int a_l4)), (5, .inl (.ref 130))]) rfl rfl ?_
                      refine sf_iconst sf_c3 (fun z123 ez123 => ?_)
                      refine sf_ireturn rfl rfl ?_
                      exact hR _ _ hI0 hs0 (by omega) (by omega) (by refine Or.inr (Or.inr (Or.inr ⟨by omega, ?_⟩)); omega) (by exact Or.inl ⟨by omega, rfl⟩) (by exact Or.inl ⟨by omega, rfl⟩) (by exact Or.inl ⟨by omega, rfl⟩) (by exact Or.inl ⟨by omega, rfl, rfl, rfl, rfl, rfl⟩)
def sm_W_lot_0_130 : List Nat := [130]
set_option maxRecDepth 100000 in
set_option maxHeartbeats 4000000 in
theorem sc_W_lot_0_130 {w0 : wq_W} (hI0 : sf_I w0) {rt : Option wq_V → wq_W → Prop} {xt : Nat → wq_W → Prop} {a_l1 : Int32} {a_l2 : Int32}  (hR : ∀ (r : Int32) (w : wq_W), sf_I w → sf_m sm_W_lot_0_130 w0 w → 0 ≤ r.toInt → r.toInt ≤ 1 → rt (some (.inl (.int r))) w) : ks_W_lot [.inl (.ref 0), .inl (.int a_l1), .inl (.int a_l2), .inl (.ref 130)] w0 rt xt := by
  have hs0 : sf_m sm_W_lot_0_130 w0 w0 := sf_m0
  refine sf_sp (L := [(0, .inl (.ref 0)), (1, .inl (.int a_l1)), (2, .inl (.int a_l2)), (3, .inl (.ref 130))]) rfl rfl ?_
  refine sf_aload rfl ?_
  refine sf_iconst sf_c0 (fun z1 ez1 => ?_)
  refine sf_aload rfl ?_
  refine sf_iload rfl ?_
  refine sf_iload rfl ?_
  refine sf_call3 rfl rfl rfl ?_
  refine sf_rv hI0 rfl ?_
  refine sf_sp (L := [(0, .inl (.ref 0)), (1, .inl (.int a_l1)), (2, .inl (.int a_l2))]) rfl rfl ?_
  refine sf_iload rfl ?_
  refine sf_aload rfl ?_
  refine sf_getr hI0 rfl rfl ?_
  refine sf_geti hI0 rfl rfl (fun v2 lv2 uv2 ev2 => ?_)
  refine sf_call2 rfl rfl rfl ?_
  refine sf_sp (L := [(0, .inl (.int a_l1)), (1, .inl (.int v2))]) rfl rfl ?_
  refine sf_iconst sf_c0 (fun z3 ez3 => ?_)
  refine sf_iload rfl ?_
  refine sf_f2_gt (fun h4 => ?_) (fun h4 => ?_)
  · refine sf_iconst sf_c0 (fun z5 ez5 => ?_)
    refine sf_zreturn (by omega) rfl rfl ?_
    refine sf_call1 rfl rfl rfl ?_
    refine sf_sp (L := [(0, .inl (.int z5))]) rfl rfl ?_
    refine sf_iload rfl ?_
    refine sf_f1_eq (fun h6 => ?_) (fun h6 => absurd h6 (by omega))
    refine sf_throw rfl rfl ?_
    refine sf_xout rfl rfl ?_
    refine sf_xhh (L' := [(0, .inl (.ref 0)), (1, .inl (.int a_l1)), (2, .inl (.int a_l2)), (3, .inl (.ref 130))]) rfl rfl ?_
    refine sf_iconst sf_c1 (fun z7 ez7 => ?_)
    refine sf_ireturn rfl rfl ?_
    exact hR _ _ hI0 hs0 (by omega) (by omega) 
  · refine sf_iload rfl ?_
    refine sf_iload rfl ?_
    refine sf_f2_ge (fun h8 => ?_) (fun h8 => ?_)
    · refine sf_iconst sf_c0 (fun z9 ez9 => ?_)
      refine sf_zreturn (by omega) rfl rfl ?_
      refine sf_call1 rfl rfl rfl ?_
      refine sf_sp (L := [(0, .inl (.int z9))]) rfl rfl ?_
      refine sf_iload rfl ?_
      refine sf_f1_eq (fun h10 => ?_) (fun h10 => absurd h10 (by omega))
      refine sf_throw rfl rfl ?_
      refine sf_xout rfl rfl ?_
      refine sf_xhh (L' := [(0, .inl (.ref 0)), (1, .inl (.int a_l1)), (2, .inl (.int a_l2)), (3, .inl (.ref 130))]) rfl rfl ?_
      refine sf_iconst sf_c1 (fun z11 ez11 => ?_)
      refine sf_ireturn rfl rfl ?_
      exact hR _ _ hI0 hs0 (by omega) (by omega) 
    · refine sf_iconst sf_c1 (fun z12 ez12 => ?_)
      refine sf_zreturn (by omega) rfl rfl ?_
      refine sf_call1 rfl rfl rfl ?_
      refine sf_sp (L := [(0, .inl (.int z12))]) rfl rfl ?_
      refine sf_iload rfl ?_
      refine sf_f1_eq (fun h13 => absurd h13 (by omega)) (fun h13 => ?_)
      refine sf_vreturn rfl rfl ?_
      refine sf_iload rfl ?_
      refine sf_iconst sf_c0 (fun z14 ez14 => ?_)
      refine sf_iconst sf_c4 (fun z15 ez15 => ?_)
      refine sf_call3 rfl rfl rfl ?_
      refine sf_sp (L := [(0, .inl (.int a_l2)), (1, .inl (.int z14)), (2, .inl (.int z15))]) rfl rfl ?_
      refine sf_iload rfl ?_
      refine sf_iload rfl ?_
      refine sf_f2_gt (fun h16 => ?_) (fun h16 => ?_)
      · refine sf_iconst sf_c0 (fun z17 ez17 => ?_)
        refine sf_zreturn (by omega) rfl rfl ?_
        refine sf_call1 rfl rfl rfl ?_
        refine sf_sp (L := [(0, .inl (.int z17))]) rfl rfl ?_
        refine sf_iload rfl ?_
        refine sf_f1_eq (fun h18 => ?_) (fun h18 => absurd h18 (by omega))
        refine sf_throw rfl rfl ?_
        refine sf_xout rfl rfl ?_
        refine sf_xhh (L' := [(0, .inl (.ref 0)), (1, .inl (.int a_l1)), (2, .inl (.int a_l2)), (3, .inl (.ref 130))]) rfl rfl ?_
        refine sf_iconst sf_c1 (fun z19 ez19 => ?_)
        refine sf_ireturn rfl rfl ?_
        exact hR _ _ hI0 hs0 (by omega) (by omega) 
      · refine sf_iload rfl ?_
        refine sf_iload rfl ?_
        refine sf_f2_gt (fun h20 => ?_) (fun h20 => ?_)
        · refine sf_iconst sf_c0 (fun z21 ez21 => ?_)
          refine sf_zreturn (by omega) rfl rfl ?_
          refine sf_call1 rfl rfl rfl ?_
          refine sf_sp (L := [(0, .inl (.int z21))]) rfl rfl ?_
          refine sf_iload rfl ?_
          refine sf_f1_eq (fun h22 => ?_) (fun h22 => absurd h22 (by omega))
          refine sf_throw rfl rfl ?_
          refine sf_xout rfl rfl ?_
          refine sf_xhh (L' := [(0, .inl (.ref 0)), (1, .inl (.int a_l1)), (2, .inl (.int a_l2)), (3, .inl (.ref 130))]) rfl rfl ?_
          refine sf_iconst sf_c1 (fun z23 ez23 => ?_)
          refine sf_ireturn rfl rfl ?_
          exact hR _ _ hI0 hs0 (by omega) (by omega) 
        · refine sf_iconst sf_c1 (fun z24 ez24 => ?_)
          refine sf_zreturn (by omega) rfl rfl ?_
          refine sf_call1 rfl rfl rfl ?_
          refine sf_sp (L := [(0, .inl (.int z24))]) rfl rfl ?_
          refine sf_iload rfl ?_
          refine sf_f1_eq (fun h25 => absurd h25 (by omega)) (fun h25 => ?_)
          refine sf_vreturn rfl rfl ?_
          refine sf_iload rfl ?_
          refine sf_sw1 sf_c0 (fun h26 => ?_) (fun h26 => ?_)
          · refine sf_aload rfl ?_
            refine sf_getr hI0 rfl rfl ?_
            refine sf_getr hI0 rfl rfl ?_
            refine sf_iload rfl ?_
            refine sf_iald hI0 rfl (by omega) (fun v27 lv27 uv27 ev27 => ?_)
            clear lv27 uv27
            clear ev27
            refine sf_i2lb (fun v28 ev28 lv28 uv28 => ?_)
            refine sf_lreturn rfl rfl ?_
            refine sf_last hI0 hs0 rfl (by omega) rfl rfl (fun w29 Iw29 sw29 kw29 uw29 => ?_)
            clear kw29 uw29
            refine sf_iconst sf_c0 (fun z30 ez30 => ?_)
            refine sf_ireturn rfl rfl ?_
            exact hR _ _ Iw29 sw29 (by omega) (by omega) 
          · refine sf_sw1 sf_c1 (fun h31 => ?_) (fun h31 => ?_)
            · refine sf_aload rfl ?_
              refine sf_getr hI0 rfl rfl ?_
              refine sf_getr hI0 rfl rfl ?_
              refine sf_iload rfl ?_
              refine sf_iald hI0 rfl (by omega) (fun v32 lv32 uv32 ev32 => ?_)
              refine sf_i2lb (fun v33 ev33 lv33 uv33 => ?_)
              refine sf_lreturn rfl rfl ?_
              refine sf_last hI0 hs0 rfl (by omega) rfl rfl (fun w34 Iw34 sw34 kw34 uw34 => ?_)
              clear kw34 uw34
              refine sf_iconst sf_c0 (fun z35 ez35 => ?_)
              refine sf_ireturn rfl rfl ?_
              exact hR _ _ Iw34 sw34 (by omega) (by omega) 
            · refine sf_sw1 sf_c2 (fun h36 => ?_) (fun h36 => ?_)
              · refine sf_aload rfl ?_
                refine sf_getr hI0 rfl rfl ?_
                refine sf_getr hI0 rfl rfl ?_
                refine sf_iload rfl ?_
                refine sf_iald hI0 rfl (by omega) (fun v37 lv37 uv37 ev37 => ?_)
                clear lv37 uv37
                clear ev37
                refine sf_i2lb (fun v38 ev38 lv38 uv38 => ?_)
                refine sf_lreturn rfl rfl ?_
                refine sf_last hI0 hs0 rfl (by omega) rfl rfl (fun w39 Iw39 sw39 kw39 uw39 => ?_)
                clear kw39 uw39
                refine sf_iconst sf_c0 (fun z40 ez40 => ?_)
                refine sf_ireturn rfl rfl ?_
                exact hR _ _ Iw39 sw39 (by omega) (by omega) 
              · refine sf_sw1 sf_c3 (fun h41 => ?_) (fun h41 => ?_)
                · refine sf_aload rfl ?_
                  refine sf_getr hI0 rfl rfl ?_
                  refine sf_getr hI0 rfl rfl ?_
                  refine sf_iload rfl ?_
                  refine sf_lald hI0 rfl (by omega) (fun v42 ev42 => ?_)
                  clear ev42
                  refine sf_lreturn rfl rfl ?_
                  refine sf_last hI0 hs0 rfl (by omega) rfl rfl (fun w43 Iw43 sw43 kw43 uw43 => ?_)
                  clear kw43 uw43
                  refine sf_iconst sf_c0 (fun z44 ez44 => ?_)
                  refine sf_ireturn rfl rfl ?_
                  exact hR _ _ Iw43 sw43 (by omega) (by omega) 
                · refine sf_sw0 ?_
                  refine sf_aload rfl ?_
                  refine sf_getr hI0 rfl rfl ?_
                  refine sf_getr hI0 rfl rfl ?_
                  refine sf_iload rfl ?_
                  refine sf_zald hI0 rfl (by omega) (fun v45 lv45 uv45 ev45 => ?_)
                  clear ev45
                  refine sf_f1_eq (fun h46 => ?_) (fun h46 => ?_)
                  · refine sf_lconst (by decide : (0 : Int64).toInt = 0) (fun z47 ez47 => ?_)
                    refine sf_lreturn rfl rfl ?_
                    refine sf_last hI0 hs0 rfl (by omega) rfl rfl (fun w48 Iw48 sw48 kw48 uw48 => ?_)
                    clear kw48 uw48
                    refine sf_iconst sf_c0 (fun z49 ez49 => ?_)
                    refine sf_ireturn rfl rfl ?_
                    exact hR _ _ Iw48 sw48 (by omega) (by omega) 
                  · refine sf_lconst (by decide : (1 : Int64).toInt = 1) (fun z50 ez50 => ?_)
                    refine sf_lreturn rfl rfl ?_
                    refine sf_last hI0 hs0 rfl (by omega) rfl rfl (fun w51 Iw51 sw51 kw51 uw51 => ?_)
                    clear kw51 uw51
                    refine sf_iconst sf_c0 (fun z52 ez52 => ?_)
                    refine sf_ireturn rfl rfl ?_
                    exact hR _ _ Iw51 sw51 (by omega) (by omega) 
def sm_W_account_0_130 : List Nat := [130]
set_option maxRecDepth 100000 in
set_option maxHeartbeats 4000000 in
theorem sc_W_account_0_130 {w0 : wq_W} (hI0 : sf_I w0) {rt : Option wq_V → wq_W → Prop} {xt : Nat → wq_W → Prop} {a_l1 : Int32} {a_l2 : Int32} (p0 : sl_B (sf_a w0 62) (sf_a w0 63)) (hR : ∀ (r : Int32) (w : wq_W), sf_I w → sf_m sm_W_account_0_130 w0 w → 0 ≤ r.toInt → r.toInt ≤ 1 → (((r.toInt = 1 ∧ ¬ (0 ≤ a_l1.toInt ∧ a_l1.toInt ≤ 15 ∧ 0 ≤ a_l2.toInt ∧ a_l2.toInt ≤ 5)) ∨ (r.toInt = 0 ∧ (0 ≤ a_l1.toInt ∧ a_l1.toInt ≤ 15 ∧ 0 ≤ a_l2.toInt ∧ a_l2.toInt ≤ 5) ∧ ((a_l2.toInt = 0 ∧ (sf_l w 130 0).toInt = (sl_S (sl_mc (sf_a w0 61) (sf_a w0 65) (sf_a w0 66) a_l1.toInt 0) (sl_u (sf_a w0 62)) (sf_f w0 60 0).toInt.toNat)) ∨ (a_l2.toInt = 1 ∧ (sf_l w 130 0).toInt = (sl_S (sl_mc (sf_a w0 61) (sf_a w0 65) (sf_a w0 66) a_l1.toInt 1) (sl_u (sf_a w0 62)) (sf_f w0 60 0).toInt.toNat)) ∨ (a_l2.toInt = 2 ∧ (sf_l w 130 0).toInt = (sf_a w0 68 a_l1.toInt.toNat).toInt) ∨ (a_l2.toInt = 3 ∧ (sf_l w 130 0).toInt = (sf_a w0 69 a_l1.toInt.toNat).toInt) ∨ (a_l2.toInt = 4 ∧ (sf_l w 130 0).toInt = (sf_a w0 70 a_l1.toInt.toNat).toInt) ∨ (a_l2.toInt = 5 ∧ (sf_l w 130 0).toInt = (sl_S (sl_mt (sf_a w0 61) (sf_a w0 65) a_l1.toInt 1) (sl_v (sf_a w0 62) (sf_a w0 63)) (sf_f w0 60 0).toInt.toNat)))))) → rt (some (.inl (.int r))) w) : ks_W_account [.inl (.ref 0), .inl (.int a_l1), .inl (.int a_l2), .inl (.ref 130)] w0 rt xt := by
  have hs0 : sf_m sm_W_account_0_130 w0 w0 := sf_m0
  refine sf_sp (L := [(0, .inl (.ref 0)), (1, .inl (.int a_l1)), (2, .inl (.int a_l2)), (3, .inl (.ref 130))]) rfl rfl ?_
  refine sf_aload rfl ?_
  refine sf_iconst sf_c0 (fun z1 ez1 => ?_)
  refine sf_aload rfl ?_
  refine sf_iload rfl ?_
  refine sf_iload rfl ?_
  refine sf_call3 rfl rfl rfl ?_
  refine sf_rv hI0 rfl ?_
  refine sf_sp (L := [(0, .inl (.ref 0)), (1, .inl (.int a_l1)), (2, .inl (.int a_l2))]) rfl rfl ?_
  refine sf_iload rfl ?_
  refine sf_call1 rfl rfl rfl ?_
  refine sf_sp (L := [(0, .inl (.int a_l1))]) rfl rfl ?_
  refine sf_iload rfl ?_
  refine sf_iconst sf_c16 (fun z2 ez2 => ?_)
  refine sf_call2 rfl rfl rfl ?_
  refine sf_sp (L := [(0, .inl (.int a_l1)), (1, .inl (.int z2))]) rfl rfl ?_
  refine sf_iconst sf_c0 (fun z3 ez3 => ?_)
  refine sf_iload rfl ?_
  refine sf_f2_gt (fun h4 => ?_) (fun h4 => ?_)
  · refine sf_iconst sf_c0 (fun z5 ez5 => ?_)
    refine sf_zreturn (by omega) rfl rfl ?_
    refine sf_zreturn (by omega) rfl rfl ?_
    refine sf_call1 rfl rfl rfl ?_
    refine sf_sp (L := [(0, .inl (.int z5))]) rfl rfl ?_
    refine sf_iload rfl ?_
    refine sf_f1_eq (fun h6 => ?_) (fun h6 => absurd h6 (by omega))
    refine sf_throw rfl rfl ?_
    refine sf_xout rfl rfl ?_
    refine sf_xhh (L' := [(0, .inl (.ref 0)), (1, .inl (.int a_l1)), (2, .inl (.int a_l2)), (3, .inl (.ref 130))]) rfl rfl ?_
    refine sf_iconst sf_c1 (fun z7 ez7 => ?_)
    refine sf_ireturn rfl rfl ?_
    exact hR _ _ hI0 hs0 (by omega) (by omega) (by first | (refine Or.inl ⟨by omega, ?_⟩; omega) | (refine Or.inr ⟨by omega, by omega, ?_⟩; omega))
  · refine sf_iload rfl ?_
    refine sf_iload rfl ?_
    refine sf_f2_ge (fun h8 => ?_) (fun h8 => ?_)
    · refine sf_iconst sf_c0 (fun z9 ez9 => ?_)
      refine sf_zreturn (by omega) rfl rfl ?_
      refine sf_zreturn (by omega) rfl rfl ?_
      refine sf_call1 rfl rfl rfl ?_
      refine sf_sp (L := [(0, .inl (.int z9))]) rfl rfl ?_
      refine sf_iload rfl ?_
      refine sf_f1_eq (fun h10 => ?_) (fun h10 => absurd h10 (by omega))
      refine sf_throw rfl rfl ?_
      refine sf_xout rfl rfl ?_
      refine sf_xhh (L' := [(0, .inl (.ref 0)), (1, .inl (.int a_l1)), (2, .inl (.int a_l2)), (3, .inl (.ref 130))]) rfl rfl ?_
      refine sf_iconst sf_c1 (fun z11 ez11 => ?_)
      refine sf_ireturn rfl rfl ?_
      exact hR _ _ hI0 hs0 (by omega) (by omega) (by first | (refine Or.inl ⟨by omega, ?_⟩; omega) | (refine Or.inr ⟨by omega, by omega, ?_⟩; omega))
    · refine sf_iconst sf_c1 (fun z12 ez12 => ?_)
      refine sf_zreturn (by omega) rfl rfl ?_
      refine sf_zreturn (by omega) rfl rfl ?_
      refine sf_call1 rfl rfl rfl ?_
      refine sf_sp (L := [(0, .inl (.int z12))]) rfl rfl ?_
      refine sf_iload rfl ?_
      refine sf_f1_eq (fun h13 => absurd h13 (by omega)) (fun h13 => ?_)
      refine sf_vreturn rfl rfl ?_
      refine sf_iload rfl ?_
      refine sf_iconst sf_c0 (fun z14 ez14 => ?_)
      refine sf_iconst sf_c5 (fun z15 ez15 => ?_)
      refine sf_call3 rfl rfl rfl ?_
      refine sf_sp (L := [(0, .inl (.int a_l2)), (1, .inl (.int z14)), (2, .inl (.int z15))]) rfl rfl ?_
      refine sf_iload rfl ?_
      refine sf_iload rfl ?_
      refine sf_f2_gt (fun h16 => ?_) (fun h16 => ?_)
      · refine sf_iconst sf_c0 (fun z17 ez17 => ?_)
        refine sf_zreturn (by omega) rfl rfl ?_
        refine sf_call1 rfl rfl rfl ?_
        refine sf_sp (L := [(0, .inl (.int z17))]) rfl rfl ?_
        refine sf_iload rfl ?_
        refine sf_f1_eq (fun h18 => ?_) (fun h18 => absurd h18 (by omega))
        refine sf_throw rfl rfl ?_
        refine sf_xout rfl rfl ?_
        refine sf_xhh (L' := [(0, .inl (.ref 0)), (1, .inl (.int a_l1)), (2, .inl (.int a_l2)), (3, .inl (.ref 130))]) rfl rfl ?_
        refine sf_iconst sf_c1 (fun z19 ez19 => ?_)
        refine sf_ireturn rfl rfl ?_
        exact hR _ _ hI0 hs0 (by omega) (by omega) (by first | (refine Or.inl ⟨by omega, ?_⟩; omega) | (refine Or.inr ⟨by omega, by omega, ?_⟩; omega))
      · refine sf_iload rfl ?_
        refine sf_iload rfl ?_
        refine sf_f2_gt (fun h20 => ?_) (fun h20 => ?_)
        · refine sf_iconst sf_c0 (fun z21 ez21 => ?_)
          refine sf_zreturn (by omega) rfl rfl ?_
          refine sf_call1 rfl rfl rfl ?_
          refine sf_sp (L := [(0, .inl (.int z21))]) rfl rfl ?_
          refine sf_iload rfl ?_
          refine sf_f1_eq (fun h22 => ?_) (fun h22 => absurd h22 (by omega))
          refine sf_throw rfl rfl ?_
          refine sf_xout rfl rfl ?_
          refine sf_xhh (L' := [(0, .inl (.ref 0)), (1, .inl (.int a_l1)), (2, .inl (.int a_l2)), (3, .inl (.ref 130))]) rfl rfl ?_
          refine sf_iconst sf_c1 (fun z23 ez23 => ?_)
          refine sf_ireturn rfl rfl ?_
          exact hR _ _ hI0 hs0 (by omega) (by omega) (by first | (refine Or.inl ⟨by omega, ?_⟩; omega) | (refine Or.inr ⟨by omega, by omega, ?_⟩; omega))
        · refine sf_iconst sf_c1 (fun z24 ez24 => ?_)
          refine sf_zreturn (by omega) rfl rfl ?_
          refine sf_call1 rfl rfl rfl ?_
          refine sf_sp (L := [(0, .inl (.int z24))]) rfl rfl ?_
          refine sf_iload rfl ?_
          refine sf_f1_eq (fun h25 => absurd h25 (by omega)) (fun h25 => ?_)
          refine sf_vreturn rfl rfl ?_
          refine sf_iload rfl ?_
          refine sf_sw1 sf_c0 (fun h26 => ?_) (fun h26 => ?_)
          · refine sf_aload rfl ?_
            refine sf_getr hI0 rfl rfl ?_
            refine sf_iload rfl ?_
            refine sf_iconst sf_c0 (fun z27 ez27 => ?_)
            refine sf_call3 rfl rfl rfl ?_
            refine sf_rv hI0 rfl ?_
            refine sc_L_heldUnitsThatCame hI0 (by omega) (by omega) (by exact p0) (fun v28 lv28 uv28 q29_0 => ?_)
            have gS := q29_0
            rw [show z27.toInt = 0 by omega] at gS
            refine sf_i2l (fun v30 ev30 => ?_)
            refine sf_lreturn rfl rfl ?_
            refine sf_last hI0 hs0 rfl (by omega) rfl rfl (fun w31 Iw31 sw31 kw31 uw31 => ?_)
            clear kw31
            have go : (sf_l w31 130 0).toInt = v30.toInt := by rw [uw31, show z1.toInt.toNat = 0 by omega]; unfold vp_updL; rw [if_pos rfl]
            refine sf_iconst sf_c0 (fun z32 ez32 => ?_)
            refine sf_ireturn rfl rfl ?_
            exact hR _ _ Iw31 sw31 (by omega) (by omega) (by first | (refine Or.inl ⟨by omega, ?_⟩; omega) | (refine Or.inr ⟨by omega, by omega, ?_⟩; omega))
          · refine sf_sw1 sf_c1 (fun h33 => ?_) (fun h33 => ?_)
            · refine sf_aload rfl ?_
              refine sf_getr hI0 rfl rfl ?_
              refine sf_iload rfl ?_
              refine sf_iconst sf_c1 (fun z34 ez34 => ?_)
              refine sf_call3 rfl rfl rfl ?_
              refine sf_rv hI0 rfl ?_
              refine sc_L_heldUnitsThatCame hI0 (by omega) (by omega) (by exact p0) (fun v35 lv35 uv35 q36_0 => ?_)
              have gS := q36_0
              rw [show z34.toInt = 1 by omega] at gS
              refine sf_i2l (fun v37 ev37 => ?_)
              refine sf_lreturn rfl rfl ?_
              refine sf_last hI0 hs0 rfl (by omega) rfl rfl (fun w38 Iw38 sw38 kw38 uw38 => ?_)
              clear kw38
              have go : (sf_l w38 130 0).toInt = v37.toInt := by rw [uw38, show z1.toInt.toNat = 0 by omega]; unfold vp_updL; rw [if_pos rfl]
              refine sf_iconst sf_c0 (fun z39 ez39 => ?_)
              refine sf_ireturn rfl rfl ?_
              exact hR _ _ Iw38 sw38 (by omega) (by omega) (by first | (refine Or.inl ⟨by omega, ?_⟩; omega) | (refine Or.inr ⟨by omega, by omega, ?_⟩; omega))
            · refine sf_sw1 sf_c2 (fun h40 => ?_) (fun h40 => ?_)
              · refine sf_aload rfl ?_
                refine sf_getr hI0 rfl rfl ?_
                refine sf_getr hI0 rfl rfl ?_
                refine sf_iload rfl ?_
                refine sf_iald hI0 rfl (by omega) (fun v41 lv41 uv41 ev41 => ?_)
                clear lv41 uv41
                refine sf_i2lb (fun v42 ev42 lv42 uv42 => ?_)
                refine sf_lreturn rfl rfl ?_
                refine sf_last hI0 hs0 rfl (by omega) rfl rfl (fun w43 Iw43 sw43 kw43 uw43 => ?_)
                clear kw43
                have go : (sf_l w43 130 0).toInt = v42.toInt := by rw [uw43, show z1.toInt.toNat = 0 by omega]; unfold vp_updL; rw [if_pos rfl]
                refine sf_iconst sf_c0 (fun z44 ez44 => ?_)
                refine sf_ireturn rfl rfl ?_
                exact hR _ _ Iw43 sw43 (by omega) (by omega) (by first | (refine Or.inl ⟨by omega, ?_⟩; omega) | (refine Or.inr ⟨by omega, by omega, ?_⟩; omega))
              · refine sf_sw1 sf_c3 (fun h45 => ?_) (fun h45 => ?_)
                · refine sf_aload rfl ?_
                  refine sf_getr hI0 rfl rfl ?_
                  refine sf_getr hI0 rfl rfl ?_
                  refine sf_iload rfl ?_
                  refine sf_iald hI0 rfl (by omega) (fun v46 lv46 uv46 ev46 => ?_)
                  clear lv46 uv46
                  refine sf_i2lb (fun v47 ev47 lv47 uv47 => ?_)
                  refine sf_lreturn rfl rfl ?_
                  refine sf_last hI0 hs0 rfl (by omega) rfl rfl (fun w48 Iw48 sw48 kw48 uw48 => ?_)
                  clear kw48
                  have go : (sf_l w48 130 0).toInt = v47.toInt := by rw [uw48, show z1.toInt.toNat = 0 by omega]; unfold vp_updL; rw [if_pos rfl]
                  refine sf_iconst sf_c0 (fun z49 ez49 => ?_)
                  refine sf_ireturn rfl rfl ?_
                  exact hR _ _ Iw48 sw48 (by omega) (by omega) (by first | (refine Or.inl ⟨by omega, ?_⟩; omega) | (refine Or.inr ⟨by omega, by omega, ?_⟩; omega))
                · refine sf_sw1 sf_c4 (fun h50 => ?_) (fun h50 => ?_)
                  · refine sf_aload rfl ?_
                    refine sf_getr hI0 rfl rfl ?_
                    refine sf_getr hI0 rfl rfl ?_
                    refine sf_iload rfl ?_
                    refine sf_iald hI0 rfl (by omega) (fun v51 lv51 uv51 ev51 => ?_)
                    clear lv51 uv51
                    refine sf_i2lb (fun v52 ev52 lv52 uv52 => ?_)
                    refine sf_lreturn rfl rfl ?_
                    refine sf_last hI0 hs0 rfl (by omega) rfl rfl (fun w53 Iw53 sw53 kw53 uw53 => ?_)
                    clear kw53
                    have go : (sf_l w53 130 0).toInt = v52.toInt := by rw [uw53, show z1.toInt.toNat = 0 by omega]; unfold vp_updL; rw [if_pos rfl]
                    refine sf_iconst sf_c0 (fun z54 ez54 => ?_)
                    refine sf_ireturn rfl rfl ?_
                    exact hR _ _ Iw53 sw53 (by omega) (by omega) (by first | (refine Or.inl ⟨by omega, ?_⟩; omega) | (refine Or.inr ⟨by omega, by omega, ?_⟩; omega))
                  · refine sf_sw0 ?_
                    refine sf_aload rfl ?_
                    refine sf_getr hI0 rfl rfl ?_
                    refine sf_iload rfl ?_
                    refine sf_iconst sf_c1 (fun z55 ez55 => ?_)
                    refine sf_call3 rfl rfl rfl ?_
                    refine sf_rv hI0 rfl ?_
                    refine sc_L_unitsLeft hI0 (by omega) (by omega) (by exact p0) (fun v56 lv56 uv56 q57_0 => ?_)
                    have gS := q57_0
                    rw [show z55.toInt = 1 by omega] at gS
                    refine sf_i2l (fun v58 ev58 => ?_)
                    refine sf_lreturn rfl rfl ?_
                    refine sf_last hI0 hs0 rfl (by omega) rfl rfl (fun w59 Iw59 sw59 kw59 uw59 => ?_)
                    clear kw59
                    have go : (sf_l w59 130 0).toInt = v58.toInt := by rw [uw59, show z1.toInt.toNat = 0 by omega]; unfold vp_updL; rw [if_pos rfl]
                    refine sf_iconst sf_c0 (fun z60 ez60 => ?_)
                    refine sf_ireturn rfl rfl ?_
                    exact hR _ _ Iw59 sw59 (by omega) (by omega) (by first | (refine Or.inl ⟨by omega, ?_⟩; omega) | (refine Or.inr ⟨by omega, by omega, ?_⟩; omega))
def sm_W_books_0_130 : List Nat := [130]
set_option maxRecDepth 100000 in
set_option maxHeartbeats 4000000 in
theorem sc_W_books_0_130 {w0 : wq_W} (hI0 : sf_I w0) {rt : Option wq_V → wq_W → Prop} {xt : Nat → wq_W → Prop} {a_l1 : Int32}  (hR : ∀ (r : Int32) (w : wq_W), sf_I w → sf_m sm_W_books_0_130 w0 w → 0 ≤ r.toInt → r.toInt ≤ 1 → rt (some (.inl (.int r))) w) : ks_W_books [.inl (.ref 0), .inl (.int a_l1), .inl (.ref 130)] w0 rt xt := by
  have hs0 : sf_m sm_W_books_0_130 w0 w0 := sf_m0
  refine sf_sp (L := [(0, .inl (.ref 0)), (1, .inl (.int a_l1)), (2, .inl (.ref 130))]) rfl rfl ?_
  refine sf_aload rfl ?_
  refine sf_iconst sf_c0 (fun z1 ez1 => ?_)
  refine sf_aload rfl ?_
  refine sf_iload rfl ?_
  refine sf_call2 rfl rfl rfl ?_
  refine sf_rv hI0 rfl ?_
  refine sf_sp (L := [(0, .inl (.ref 0)), (1, .inl (.int a_l1))]) rfl rfl ?_
  refine sf_iload rfl ?_
  refine sf_iconst sf_c0 (fun z2 ez2 => ?_)
  refine sf_iconst sf_c1 (fun z3 ez3 => ?_)
  refine sf_call3 rfl rfl rfl ?_
  refine sf_sp (L := [(0, .inl (.int a_l1)), (1, .inl (.int z2)), (2, .inl (.int z3))]) rfl rfl ?_
  refine sf_iload rfl ?_
  refine sf_iload rfl ?_
  refine sf_f2_gt (fun h4 => ?_) (fun h4 => ?_)
  · refine sf_iconst sf_c0 (fun z5 ez5 => ?_)
    refine sf_zreturn (by omega) rfl rfl ?_
    refine sf_call1 rfl rfl rfl ?_
    refine sf_sp (L := [(0, .inl (.int z5))]) rfl rfl ?_
    refine sf_iload rfl ?_
    refine sf_f1_eq (fun h6 => ?_) (fun h6 => absurd h6 (by omega))
    refine sf_throw rfl rfl ?_
    refine sf_xout rfl rfl ?_
    refine sf_xhh (L' := [(0, .inl (.ref 0)), (1, .inl (.int a_l1)), (2, .inl (.ref 130))]) rfl rfl ?_
    refine sf_iconst sf_c1 (fun z7 ez7 => ?_)
    refine sf_ireturn rfl rfl ?_
    exact hR _ _ hI0 hs0 (by omega) (by omega) 
  · refine sf_iload rfl ?_
    refine sf_iload rfl ?_
    refine sf_f2_gt (fun h8 => ?_) (fun h8 => ?_)
    · refine sf_iconst sf_c0 (fun z9 ez9 => ?_)
      refine sf_zreturn (by omega) rfl rfl ?_
      refine sf_call1 rfl rfl rfl ?_
      refine sf_sp (L := [(0, .inl (.int z9))]) rfl rfl ?_
      refine sf_iload rfl ?_
      refine sf_f1_eq (fun h10 => ?_) (fun h10 => absurd h10 (by omega))
      refine sf_throw rfl rfl ?_
      refine sf_xout rfl rfl ?_
      refine sf_xhh (L' := [(0, .inl (.ref 0)), (1, .inl (.int a_l1)), (2, .inl (.ref 130))]) rfl rfl ?_
      refine sf_iconst sf_c1 (fun z11 ez11 => ?_)
      refine sf_ireturn rfl rfl ?_
      exact hR _ _ hI0 hs0 (by omega) (by omega) 
    · refine sf_iconst sf_c1 (fun z12 ez12 => ?_)
      refine sf_zreturn (by omega) rfl rfl ?_
      refine sf_call1 rfl rfl rfl ?_
      refine sf_sp (L := [(0, .inl (.int z12))]) rfl rfl ?_
      refine sf_iload rfl ?_
      refine sf_f1_eq (fun h13 => absurd h13 (by omega)) (fun h13 => ?_)
      refine sf_vreturn rfl rfl ?_
      refine sf_iload rfl ?_
      refine sf_f1_eq (fun h14 => ?_) (fun h14 => ?_)
      · refine sf_aload rfl ?_
        refine sf_getr hI0 rfl rfl ?_
        refine sf_getl hI0 rfl rfl (fun v15 => ?_)
        refine sf_lreturn rfl rfl ?_
        refine sf_last hI0 hs0 rfl (by omega) rfl rfl (fun w16 Iw16 sw16 kw16 uw16 => ?_)
        clear kw16 uw16
        refine sf_iconst sf_c0 (fun z17 ez17 => ?_)
        refine sf_ireturn rfl rfl ?_
        exact hR _ _ Iw16 sw16 (by omega) (by omega) 
      · refine sf_aload rfl ?_
        refine sf_getr hI0 rfl rfl ?_
        refine sf_getl hI0 rfl rfl (fun v18 => ?_)
        refine sf_lreturn rfl rfl ?_
        refine sf_last hI0 hs0 rfl (by omega) rfl rfl (fun w19 Iw19 sw19 kw19 uw19 => ?_)
        clear kw19 uw19
        refine sf_iconst sf_c0 (fun z20 ez20 => ?_)
        refine sf_ireturn rfl rfl ?_
        exact hR _ _ Iw19 sw19 (by omega) (by omega) 
