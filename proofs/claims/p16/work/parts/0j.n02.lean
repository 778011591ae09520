def sm_M_classify : List Nat := [71, 8100]
set_option maxRecDepth 100000 in
set_option maxHeartbeats 4000000 in
theorem sc_M_classify {w0 : wq_W} (hI0 : sf_I w0) {rt : Option wq_V → wq_W → Prop} {xt : Nat → wq_W → Prop} {a_good : Int32} (p0 : sf_J (sf_a w0 3) (sf_a w0 72) (sf_f w0 71 1).toInt) (hR : ∀ (r : Int32) (w : wq_W), sf_I w → sf_m sm_M_classify w0 w → (-1) ≤ r.toInt → r.toInt ≤ 23 → ((((sf_f w 71 0).toInt = 0 ∧ (0 ≤ a_good.toInt ∧ a_good.toInt ≤ 15) ∧ r.toInt = sj_B (sp_fi (sf_a w0 72) (sf_a w0 75) (sf_a w0 76) (sf_a w0 77) (sf_a w0 78) (sp_aa (sf_a w0 93) a_good.toInt.toNat) (sf_f w0 71 5).toInt.toNat) (sp_d (sf_a w0 3)) (sp_sh (sf_a w0 72) (sf_a w0 75) (sf_a w0 76) (sf_a w0 77) (sp_aa (sf_a w0 93) a_good.toInt.toNat) (sf_f w0 71 5).toInt.toNat) (sf_f w0 71 1).toInt.toNat) ∨ ((sf_f w 71 0).toInt = 1 ∧ ¬ (0 ≤ a_good.toInt ∧ a_good.toInt ≤ 15)))) → rt (some (.inl (.int r))) w) : ks_M_classify [.inl (.ref 71), .inl (.int a_good)] w0 rt xt := by
  have hs0 : sf_m sm_M_classify w0 w0 := sf_m0
  refine sf_sp (L := [(0, .inl (.ref 71)), (1, .inl (.int a_good))]) rfl rfl ?_
  refine sf_aload rfl ?_
  refine sf_iload rfl ?_
  refine sf_iconst sf_c0 (fun z1 ez1 => ?_)
  refine sf_iconst sf_c15 (fun z2 ez2 => ?_)
  refine sf_call3 rfl rfl rfl ?_
  refine sf_sp (L := [(0, .inl (.int a_good)), (1, .inl (.int z1)), (2, .inl (.int z2))]) rfl rfl ?_
  refine sf_iload rfl ?_
  refine sf_iload rfl ?_
  refine sf_f2_lt (fun h3 => ?_) (fun h3 => ?_)
  · refine sf_iconst sf_c0 (fun z4 ez4 => ?_)
    refine sf_zreturn (by omega) rfl rfl ?_
    refine sf_f1_eq (fun h5 => ?_) (fun h5 => absurd h5 (by omega))
    refine sf_iconst sf_c1 (fun z6 ez6 => ?_)
    refine sf_puti hI0 hs0 rfl rfl (sf_bd _) rfl rfl rfl (fun w7 Iw7 sw7 kw7 uw7 => ?_)
    clear kw7
    refine sf_aload rfl ?_
    refine sf_geti Iw7 rfl rfl (fun v8 lv8 uv8 ev8 => ?_)
    rw [uw7] at ev8
    refine sf_f1_le (fun h9 => absurd h9 (by omega)) (fun h9 => ?_)
    refine sf_iconst sf_c0 (fun z10 ez10 => ?_)
    refine sf_ireturn rfl rfl ?_
    exact hR _ _ Iw7 sw7 (by omega) (by omega) (by rw [uw7]; first | (refine Or.inl ⟨by omega, ?_⟩; omega) | (refine Or.inr ⟨by omega, ?_⟩; omega))
  · refine sf_iload rfl ?_
    refine sf_iload rfl ?_
    refine sf_f2_gt (fun h11 => ?_) (fun h11 => ?_)
    · refine sf_iconst sf_c0 (fun z12 ez12 => ?_)
      refine sf_zreturn (by omega) rfl rfl ?_
      refine sf_f1_eq (fun h13 => ?_) (fun h13 => absurd h13 (by omega))
      refine sf_iconst sf_c1 (fun z14 ez14 => ?_)
      refine sf_puti hI0 hs0 rfl rfl (sf_bd _) rfl rfl rfl (fun w15 Iw15 sw15 kw15 uw15 => ?_)
      clear kw15
      refine sf_aload rfl ?_
      refine sf_geti Iw15 rfl rfl (fun v16 lv16 uv16 ev16 => ?_)
      rw [uw15] at ev16
      refine sf_f1_le (fun h17 => absurd h17 (by omega)) (fun h17 => ?_)
      refine sf_iconst sf_c0 (fun z18 ez18 => ?_)
      refine sf_ireturn rfl rfl ?_
      exact hR _ _ Iw15 sw15 (by omega) (by omega) (by rw [uw15]; first | (refine Or.inl ⟨by omega, ?_⟩; omega) | (refine Or.inr ⟨by omega, ?_⟩; omega))
    · refine sf_iconst sf_c1 (fun z19 ez19 => ?_)
      refine sf_zreturn (by omega) rfl rfl ?_
      refine sf_f1_eq (fun h20 => absurd h20 (by omega)) (fun h20 => ?_)
      refine sf_iconst sf_c0 (fun z21 ez21 => ?_)
      refine sf_puti hI0 hs0 rfl rfl (sf_bd _) rfl rfl rfl (fun w22 Iw22 sw22 kw22 uw22 => ?_)
      clear kw22
      refine sf_aload rfl ?_
      refine sf_geti Iw22 rfl rfl (fun v23 lv23 uv23 ev23 => ?_)
      rw [uw22] at ev23
      refine sf_f1_le (fun h24 => ?_) (fun h24 => absurd h24 (by omega))
      refine sf_aload rfl ?_
      refine sf_iload rfl ?_
      refine sf_call2 rfl rfl rfl ?_
      refine sf_rv Iw22 rfl ?_
      refine sc_M_classOf_K Iw22 (by omega) (by omega) (by rw [sf_ma sw22 (p := 3) rfl]; rw [sf_ma sw22 (p := 72) rfl]; rw [sf_mf sw22 (p := 71) (j := 1) rfl]; exact p0) (fun v25 lv25 uv25 q26_0 q26_1 => ?_)
      rw [sf_mf sw22 (p := 71) (j := 1) rfl] at q26_0
      rw [sf_ma sw22 (p := 3) rfl] at q26_1
      rw [sf_ma sw22 (p := 72) rfl] at q26_1
      rw [sf_ma sw22 (p := 75) rfl] at q26_1
      rw [sf_ma sw22 (p := 76) rfl] at q26_1
      rw [sf_ma sw22 (p := 77) rfl] at q26_1
      rw [sf_ma sw22 (p := 78) rfl] at q26_1
      rw [sf_ma sw22 (p := 93) rfl] at q26_1
      rw [sf_mf sw22 (p := 71) (j := 1) rfl] at q26_1
      rw [sf_mf sw22 (p := 71) (j := 5) rfl] at q26_1
      refine sf_ireturn rfl rfl ?_
      exact hR _ _ Iw22 sw22 (by omega) (by omega) (by rw [uw22]; first | (refine Or.inl ⟨by omega, ?_⟩; omega) | (refine Or.inr ⟨by omega, ?_⟩; omega))
def sm_M_rate : List Nat := [71, 79, 80, 81, 82, 83, 84, 85, 8100, 8110]
set_option maxRecDepth 100000 in
set_option maxHeartbeats 4000000 in
theorem sc_M_rate {w0 : wq_W} (hI0 : sf_I w0) {rt : Option wq_V → wq_W → Prop} {xt : Nat → wq_W → Prop} {a_heading : Int32} {a_land : Int32} {a_kind : Int32} {a_a : Int32} {a_b : Int32} {a_from : Int32} {a_to : Int32}  (hR : ∀ (r : Int32) (w : wq_W), sf_I w → sf_m sm_M_rate w0 w → 0 ≤ r.toInt → r.toInt ≤ 40 → ((((sf_f w 71 0).toInt = 0 ∧ (0 ≤ a_heading.toInt ∧ a_heading.toInt < (sf_f w0 71 1).toInt ∧ -1 ≤ a_land.toInt ∧ a_land.toInt ≤ 7 ∧ 0 ≤ a_kind.toInt ∧ a_kind.toInt ≤ 3 ∧ 0 ≤ a_a.toInt ∧ a_a.toInt ≤ 10000 ∧ 0 ≤ a_b.toInt ∧ a_b.toInt ≤ 10000 ∧ 0 ≤ a_from.toInt ∧ a_from.toInt ≤ a_to.toInt ∧ a_to.toInt ≤ 9999) ∧ ((sf_f w0 71 10).toInt < 40) ∧ (sf_f w 71 10).toInt = (sf_f w0 71 10).toInt + 1 ∧ r.toInt = (sf_f w0 71 10).toInt) ∨ ((sf_f w 71 0).toInt = 1 ∧ ¬ (0 ≤ a_heading.toInt ∧ a_heading.toInt < (sf_f w0 71 1).toInt ∧ -1 ≤ a_land.toInt ∧ a_land.toInt ≤ 7 ∧ 0 ≤ a_kind.toInt ∧ a_kind.toInt ≤ 3 ∧ 0 ≤ a_a.toInt ∧ a_a.toInt ≤ 10000 ∧ 0 ≤ a_b.toInt ∧ a_b.toInt ≤ 10000 ∧ 0 ≤ a_from.toInt ∧ a_from.toInt ≤ a_to.toInt ∧ a_to.toInt ≤ 9999) ∧ (sf_f w 71 10).toInt = (sf_f w0 71 10).toInt) ∨ ((sf_f w 71 0).toInt = 2 ∧ (0 ≤ a_heading.toInt ∧ a_heading.toInt < (sf_f w0 71 1).toInt ∧ -1 ≤ a_land.toInt ∧ a_land.toInt ≤ 7 ∧ 0 ≤ a_kind.toInt ∧ a_kind.toInt ≤ 3 ∧ 0 ≤ a_a.toInt ∧ a_a.toInt ≤ 10000 ∧ 0 ≤ a_b.toInt ∧ a_b.toInt ≤ 10000 ∧ 0 ≤ a_from.toInt ∧ a_from.toInt ≤ a_to.toInt ∧ a_to.toInt ≤ 9999) ∧ ¬ ((sf_f w0 71 10).toInt < 40) ∧ (sf_f w 71 10).toInt = (sf_f w0 71 10).toInt))) → (sf_U (sf_a w0 79) (sf_a w 79) (sf_f w0 71 10).toInt (sf_f w 71 0).toInt a_heading) → (sf_U (sf_a w0 80) (sf_a w 80) (sf_f w0 71 10).toInt (sf_f w 71 0).toInt a_land) → (sf_U (sf_a w0 81) (sf_a w 81) (sf_f w0 71 10).toInt (sf_f w 71 0).toInt a_kind) → (sf_U (sf_a w0 82) (sf_a w 82) (sf_f w0 71 10).toInt (sf_f w 71 0).toInt a_a) → (sf_U (sf_a w0 83) (sf_a w 83) (sf_f w0 71 10).toInt (sf_f w 71 0).toInt a_b) → (sf_U (sf_a w0 84) (sf_a w 84) (sf_f w0 71 10).toInt (sf_f w 71 0).toInt a_from) → (sf_U (sf_a w0 85) (sf_a w 85) (sf_f w0 71 10).toInt (sf_f w 71 0).toInt a_to) → rt (some (.inl (.int r))) w) : ks_M_rate [.inl (.ref 71), .inl (.int a_heading), .inl (.int a_land), .inl (.int a_kind), .inl (.int a_a), .inl (.int a_b), .inl (.int a_from), .inl (.int a_to)] w0 rt xt := by
  have hs0 : sf_m sm_M_rate w0 w0 := sf_m0
  refine sf_sp (L := [(0, .inl (.ref 71)), (1, .inl (.int a_heading)), (2, .inl (.int a_land)), (3, .inl (.int a_kind)), (4, .inl (.int a_a)), (5, .inl (.int a_b)), (6, .inl (.int a_from)), (7, .inl (.int a_to))]) rfl rfl ?_
  refine sf_aload rfl ?_
  refine sf_iload rfl ?_
  refine sf_call2 rfl rfl rfl ?_
  refine sf_rv hI0 rfl ?_
  refine sf_sp (L := [(0, .inl (.ref 71)), (1, .inl (.int a_heading))]) rfl rfl ?_
  refine sf_iload rfl ?_
  refine sf_f1_lt (fun h1 => ?_) (fun h1 => ?_)
  · refine sf_iconst sf_c0 (fun z2 ez2 => ?_)
    refine sf_zreturn (by omega) rfl rfl ?_
    refine sf_f1_eq (fun h3 => ?_) (fun h3 => absurd h3 (by omega))
    refine sf_iconst sf_c0 (fun z4 ez4 => ?_)
    refine sf_istore (L' := [(0, .inl (.ref 71)), (1, .inl (.int a_heading)), (2, .inl (.int a_land)), (3, .inl (.int a_kind)), (4, .inl (.int a_a)), (5, .inl (.int a_b)), (6, .inl (.int a_from)), (7, .inl (.int a_to))]) rfl ?_
    refine sf_aload rfl ?_
    refine sf_iload rfl ?_
    refine sf_f1_eq (fun h5 => ?_) (fun h5 => absurd h5 (by omega))
    refine sf_iconst sf_c1 (fun z6 ez6 => ?_)
    refine sf_puti hI0 hs0 rfl rfl (sf_bd _) rfl rfl rfl (fun w7 Iw7 sw7 kw7 uw7 => ?_)
    have c8 := sf_mf kw7 (p := 71) (j := 10) rfl
    have c9 := sf_ma kw7 (p := 79) rfl
    have c10 := sf_ma kw7 (p := 80) rfl
    have c11 := sf_ma kw7 (p := 81) rfl
    have c12 := sf_ma kw7 (p := 82) rfl
    have c13 := sf_ma kw7 (p := 83) rfl
    have c14 := sf_ma kw7 (p := 84) rfl
    have c15 := sf_ma kw7 (p := 85) rfl
    clear kw7
    refine sf_aload rfl ?_
    refine sf_geti Iw7 rfl rfl (fun v16 lv16 uv16 ev16 => ?_)
    rw [uw7] at ev16
    refine sf_f1_le (fun h17 => absurd h17 (by omega)) (fun h17 => ?_)
    refine sf_iconst sf_c0 (fun z18 ez18 => ?_)
    refine sf_ireturn rfl rfl ?_
    exact hR _ _ Iw7 sw7 (by omega) (by omega) (by rw [uw7]; rw [c8]; first | (refine Or.inl ⟨by omega, ?_⟩; omega) | (refine Or.inr (Or.inl ⟨by omega, ?_⟩); omega) | (refine Or.inr (Or.inr ⟨by omega, ?_⟩); omega)) (by rw [uw7]; rw [c9]; first | exact Or.inl ⟨by omega, rfl⟩ | exact Or.inr ⟨by omega, u79⟩) (by rw [uw7]; rw [c10]; first | exact Or.inl ⟨by omega, rfl⟩ | exact Or.inr ⟨by omega, u80⟩) (by rw [uw7]; rw [c11]; first | exact Or.inl ⟨by omega, rfl⟩ | exact Or.inr ⟨by omega, u81⟩) (by rw [uw7]; rw [c12]; first | exact Or.inl ⟨by omega, rfl⟩ | exact Or.inr ⟨by omega, u82⟩) (by rw [uw7]; rw [c13]; first | exact Or.inl ⟨by omega, rfl⟩ | exact Or.inr ⟨by omega, u83⟩) (by rw [uw7]; rw [c14]; first | exact Or.inl ⟨by omega, rfl⟩ | exact Or.inr ⟨by omega, u84⟩) (by rw [uw7]; rw [c15]; first | exact Or.inl ⟨by omega, rfl⟩ | exact Or.inr ⟨by omega, u85⟩)
  · refine sf_iload rfl ?_
    refine sf_aload rfl ?_
    refine sf_geti hI0 rfl rfl (fun v19 lv19 uv19 ev19 => ?_)
    refine sf_f2_ge (fun h20 => ?_) (fun h20 => ?_)
    · refine sf_iconst sf_c0 (fun z21 ez21 => ?_)
      refine sf_zreturn (by omega) rfl rfl ?_
      refine sf_f1_eq (fun h22 => ?_) (fun h22 => absurd h22 (by omega))
      refine sf_iconst sf_c0 (fun z23 ez23 => ?_)
      refine sf_istore (L' := [(0, .inl (.ref 71)), (1, .inl (.int a_heading)), (2, .inl (.int a_land)), (3, .inl (.int a_kind)), (4, .inl (.int a_a)), (5, .inl (.int a_b)), (6, .inl (.int a_from)), (7, .inl (.int a_to))]) rfl ?_
      refine sf_aload rfl ?_
      refine sf_iload rfl ?_
      refine sf_f1_eq (fun h24 => ?_) (fun h24 => absurd h24 (by omega))
      refine sf_iconst sf_c1 (fun z25 ez25 => ?_)
      refine sf_puti hI0 hs0 rfl rfl (sf_bd _) rfl rfl rfl (fun w26 Iw26 sw26 kw26 uw26 => ?_)
      have c27 := sf_mf kw26 (p := 71) (j := 10) rfl
      have c28 := sf_ma kw26 (p := 79) rfl
      have c29 := sf_ma kw26 (p := 80) rfl
      have c30 := sf_ma kw26 (p := 81) rfl
      have c31 := sf_ma kw26 (p := 82) rfl
      have c32 := sf_ma kw26 (p := 83) rfl
      have c33 := sf_ma kw26 (p := 84) rfl
      have c34 := sf_ma kw26 (p := 85) rfl
      clear kw26
      refine sf_aload rfl ?_
      refine sf_geti Iw26 rfl rfl (fun v35 lv35 uv35 ev35 => ?_)
      rw [uw26] at ev35
      refine sf_f1_le (fun h36 => absurd h36 (by omega)) (fun h36 => ?_)
      refine sf_iconst sf_c0 (fun z37 ez37 => ?_)
      refine sf_ireturn rfl rfl ?_
      exact hR _ _ Iw26 sw26 (by omega) (by omega) (by rw [uw26]; rw [c27]; first | (refine Or.inl ⟨by omega, ?_⟩; omega) | (refine Or.inr (Or.inl ⟨by omega, ?_⟩); omega) | (refine Or.inr (Or.inr ⟨by omega, ?_⟩); omega)) (by rw [uw26]; rw [c28]; first | exact Or.inl ⟨by omega, rfl⟩ | exact Or.inr ⟨by omega, u79⟩) (by rw [uw26]; rw [c29]; first | exact Or.inl ⟨by omega, rfl⟩ | exact Or.inr ⟨by omega, u80⟩) (by rw [uw26]; rw [c30]; first | exact Or.inl ⟨by omega, rfl⟩ | exact Or.inr ⟨by omega, u81⟩) (by rw [uw26]; rw [c31]; first | exact Or.inl ⟨by omega, rfl⟩ | exact Or.inr ⟨by omega, u82⟩) (by rw [uw26]; rw [c32]; first | exact Or.inl ⟨by omega, rfl⟩ | exact Or.inr ⟨by omega, u83⟩) (by rw [uw26]; rw [c33]; first | exact Or.inl ⟨by omega, rfl⟩ | exact Or.inr ⟨by omega, u84⟩) (by rw [uw26]; rw [c34]; first | exact Or.inl ⟨by omega, rfl⟩ | exact Or.inr ⟨by omega, u85⟩)
    · refine sf_iconst sf_c1 (fun z38 ez38 => ?_)
      refine sf_zreturn (by omega) rfl rfl ?_
      refine sf_f1_eq (fun h39 => absurd h39 (by omega)) (fun h39 => ?_)
      refine sf_iload rfl ?_
      refine sf_iconst sf_cm1 (fun z40 ez40 => ?_)
      refine sf_iconst sf_c7 (fun z41 ez41 => ?_)
      refine sf_call3 rfl rfl rfl ?_
      refine sf_sp (L := [(0, .inl (.int a_land)), (1, .inl (.int z40)), (2, .inl (.int z41))]) rfl rfl ?_
      refine sf_iload rfl ?_
      refine sf_iload rfl ?_
      refine sf_f2_lt (fun h42 => ?_) (fun h42 => ?_)
      · refine sf_iconst sf_c0 (fun z43 ez43 => ?_)
        refine sf_zreturn (by omega) rfl rfl ?_
        refine sf_f1_eq (fun h44 => ?_) (fun h44 => absurd h44 (by omega))
        refine sf_iconst sf_c0 (fun z45 ez45 => ?_)
        refine sf_istore (L' := [(0, .inl (.ref 71)), (1, .inl (.int a_heading)), (2, .inl (.int a_land)), (3, .inl (.int a_kind)), (4, .inl (.int a_a)), (5, .inl (.int a_b)), (6, .inl (.int a_from)), (7, .inl (.int a_to))]) rfl ?_
        refine sf_aload rfl ?_
        refine sf_iload rfl ?_
        refine sf_f1_eq (fun h46 => ?_) (fun h46 => absurd h46 (by omega))
        refine sf_iconst sf_c1 (fun z47 ez47 => ?_)
        refine sf_puti hI0 hs0 rfl rfl (sf_bd _) rfl rfl rfl (fun w48 Iw48 sw48 kw48 uw48 => ?_)
        have c49 := sf_mf kw48 (p := 71) (j := 10) rfl
        have c50 := sf_ma kw48 (p := 79) rfl
        have c51 := sf_ma kw48 (p := 80) rfl
        have c52 := sf_ma kw48 (p := 81) rfl
        have c53 := sf_ma kw48 (p := 82) rfl
        have c54 := sf_ma kw48 (p := 83) rfl
        have c55 := sf_ma kw48 (p := 84) rfl
        have c56 := sf_ma kw48 (p := 85) rfl
        clear kw48
        refine sf_aload rfl ?_
        refine sf_geti Iw48 rfl rfl (fun v57 lv57 uv57 ev57 => ?_)
        rw [uw48] at ev57
        refine sf_f1_le (fun h58 => absurd h58 (by omega)) (fun h58 => ?_)
        refine sf_iconst sf_c0 (fun z59 ez59 => ?_)
        refine sf_ireturn rfl rfl ?_
        exact hR _ _ Iw48 sw48 (by omega) (by omega) (by rw [uw48]; rw [c49]; first | (refine Or.inl ⟨by omega, ?_⟩; omega) | (refine Or.inr (Or.inl ⟨by omega, ?_⟩); omega) | (refine Or.inr (Or.inr ⟨by omega, ?_⟩); omega)) (by rw [uw48]; rw [c50]; first | exact Or.inl ⟨by omega, rfl⟩ | exact Or.inr ⟨by omega, u79⟩) (by rw [uw48]; rw [c51]; first | exact Or.inl ⟨by omega, rfl⟩ | exact Or.inr ⟨by omega, u80⟩) (by rw [uw48]; rw [c52]; first | exact Or.inl ⟨by omega, rfl⟩ | exact Or.inr ⟨by omega, u81⟩) (by rw [uw48]; rw [c53]; first | exact Or.inl ⟨by omega, rfl⟩ | exact Or.inr ⟨by omega, u82⟩) (by rw [uw48]; rw [c54]; first | exact Or.inl ⟨by omega, rfl⟩ | exact Or.inr ⟨by omega, u83⟩) (by rw [uw48]; rw [c55]; first | exact Or.inl ⟨by omega, rfl⟩ | exact Or.inr ⟨by omega, u84⟩) (by rw [uw48]; rw [c56]; first | exact Or.inl ⟨by omega, rfl⟩ | exact Or.inr ⟨by omega, u85⟩)
      · refine sf_iload rfl ?_
        refine sf_iload rfl ?_
        refine sf_f2_gt (fun h60 => ?_) (fun h60 => ?_)
        · refine sf_iconst sf_c0 (fun z61 ez61 => ?_)
          refine sf_zreturn (by omega) rfl rfl ?_
          refine sf_f1_eq (fun h62 => ?_) (fun h62 => absurd h62 (by omega))
          refine sf_iconst sf_c0 (fun z63 ez63 => ?_)
          refine sf_istore (L' := [(0, .inl (.ref 71)), (1, .inl (.int a_heading)), (2, .inl (.int a_land)), (3, .inl (.int a_kind)), (4, .inl (.int a_a)), (5, .inl (.int a_b)), (6, .inl (.int a_from)), (7, .inl (.int a_to))]) rfl ?_
          refine sf_aload rfl ?_
          refine sf_iload rfl ?_
          refine sf_f1_eq (fun h64 => ?_) (fun h64 => absurd h64 (by omega))
          refine sf_iconst sf_c1 (fun z65 ez65 => ?_)
          refine sf_puti hI0 hs0 rfl rfl (sf_bd _) rfl rfl rfl (fun w66 Iw66 sw66 kw66 uw66 => ?_)
          have c67 := sf_mf kw66 (p := 71) (j := 10) rfl
          have c68 := sf_ma kw66 (p := 79) rfl
          have c69 := sf_ma kw66 (p := 80) rfl
          have c70 := sf_ma kw66 (p := 81) rfl
          have c71 := sf_ma kw66 (p := 82) rfl
          have c72 := sf_ma kw66 (p := 83) rfl
          have c73 := sf_ma kw66 (p := 84) rfl
          have c74 := sf_ma kw66 (p := 85) rfl
          clear kw66
          refine sf_aload rfl ?_
          refine sf_geti Iw66 rfl rfl (fun v75 lv75 uv75 ev75 => ?_)
          rw [uw66] at ev75
          refine sf_f1_le (fun h76 => absurd h76 (by omega)) (fun h76 => ?_)
          refine sf_iconst sf_c0 (fun z77 ez77 => ?_)
          refine sf_ireturn rfl rfl ?_
          exact hR _ _ Iw66 sw66 (by omega) (by omega) (by rw [uw66]; rw [c67]; first | (refine Or.inl ⟨by omega, ?_⟩; omega) | (refine Or.inr (Or.inl ⟨by omega, ?_⟩); omega) | (refine Or.inr (Or.inr ⟨by omega, ?_⟩); omega)) (by rw [uw66]; rw [c68]; first | exact Or.inl ⟨by omega, rfl⟩ | exact Or.inr ⟨by omega, u79⟩) (by rw [uw66]; rw [c69]; first | exact Or.inl ⟨by omega, rfl⟩ | exact Or.inr ⟨by omega, u80⟩) (by rw [uw66]; rw [c70]; first | exact Or.inl ⟨by omega, rfl⟩ | exact Or.inr ⟨by omega, u81⟩) (by rw [uw66]; rw [c71]; first | exact Or.inl ⟨by omega, rfl⟩ | exact Or.inr ⟨by omega, u82⟩) (by rw [uw66]; rw [c72]; first | exact Or.inl ⟨by omega, rfl⟩ | exact Or.inr ⟨by omega, u83⟩) (by rw [uw66]; rw [c73]; first | exact Or.inl ⟨by omega, rfl⟩ | exact Or.inr ⟨by omega, u84⟩) (by rw [uw66]; rw [c74]; first | exact Or.inl ⟨by omega, rfl⟩ | exact Or.inr ⟨by omega, u85⟩)
        · refine sf_iconst sf_c1 (fun z78 ez78 => ?_)
          refine sf_zreturn (by omega) rfl rfl ?_
          refine sf_f1_eq (fun h79 => absurd h79 (by omega)) (fun h79 => ?_)
          refine sf_iload rfl ?_
          refine sf_iconst sf_c0 (fun z80 ez80 => ?_)
          refine sf_iconst sf_c3 (fun z81 ez81 => ?_)
          refine sf_call3 rfl rfl rfl ?_
          refine sf_sp (L := [(0, .inl (.int a_kind)), (1, .inl (.int z80)), (2, .inl (.int z81))]) rfl rfl ?_
          refine sf_iload rfl ?_
          refine sf_iload rfl ?_
          refine sf_f2_lt (fun h82 => ?_) (fun h82 => ?_)
          · refine sf_iconst sf_c0 (fun z83 ez83 => ?_)
            refine sf_zreturn (by omega) rfl rfl ?_
            refine sf_f1_eq (fun h84 => ?_) (fun h84 => absurd h84 (by omega))
            refine sf_iconst sf_c0 (fun z85 ez85 => ?_)
            refine sf_istore (L' := [(0, .inl (.ref 71)), (1, .inl (.int a_heading)), (2, .inl (.int a_land)), (3, .inl (.int a_kind)), (4, .inl (.int a_a)), (5, .inl (.int a_b)), (6, .inl (.int a_from)), (7, .inl (.int a_to))]) rfl ?_
            refine sf_aload rfl ?_
            refine sf_iload rfl ?_
            refine sf_f1_eq (fun h86 => ?_) (fun h86 => absurd h86 (by omega))
            refine sf_iconst sf_c1 (fun z87 ez87 => ?_)
            refine sf_puti hI0 hs0 rfl rfl (sf_bd _) rfl rfl rfl (fun w88 Iw88 sw88 kw88 uw88 => ?_)
            have c89 := sf_mf kw88 (p := 71) (j := 10) rfl
            have c90 := sf_ma kw88 (p := 79) rfl
            have c91 := sf_ma kw88 (p := 80) rfl
            have c92 := sf_ma kw88 (p := 81) rfl
            have c93 := sf_ma kw88 (p := 82) rfl
            have c94 := sf_ma kw88 (p := 83) rfl
            have c95 := sf_ma kw88 (p := 84) rfl
            have c96 := sf_ma kw88 (p := 85) rfl
            clear kw88
            refine sf_aload rfl ?_
            refine sf_geti Iw88 rfl rfl (fun v97 lv97 uv97 ev97 => ?_)
            rw [uw88] at ev97
            refine sf_f1_le (fun h98 => absurd h98 (by omega)) (fun h98 => ?_)
            refine sf_iconst sf_c0 (fun z99 ez99 => ?_)
            refine sf_ireturn rfl rfl ?_
            exact hR _ _ Iw88 sw88 (by omega) (by omega) (by rw [uw88]; rw [c89]; first | (refine Or.inl ⟨by omega, ?_⟩; omega) | (refine Or.inr (Or.inl ⟨by omega, ?_⟩); omega) | (refine Or.inr (Or.inr ⟨by omega, ?_⟩); omega)) (by rw [uw88]; rw [c90]; first | exact Or.inl ⟨by omega, rfl⟩ | exact Or.inr ⟨by omega, u79⟩) (by rw [uw88]; rw [c91]; first | exact Or.inl ⟨by omega, rfl⟩ | exact Or.inr ⟨by omega, u80⟩) (by rw [uw88]; rw [c92]; first | exact Or.inl ⟨by omega, rfl⟩ | exact Or.inr ⟨by omega, u81⟩) (by rw [uw88]; rw [c93]; first | exact Or.inl ⟨by omega, rfl⟩ | exact Or.inr ⟨by omega, u82⟩) (by rw [uw88]; rw [c94]; first | exact Or.inl ⟨by omega, rfl⟩ | exact Or.inr ⟨by omega, u83⟩) (by rw [uw88]; rw [c95]; first | exact Or.inl ⟨by omega, rfl⟩ | exact Or.inr ⟨by omega, u84⟩) (by rw [uw88]; rw [c96]; first | exact Or.inl ⟨by omega, rfl⟩ | exact Or.inr ⟨by omega, u85⟩)
          · refine sf_iload rfl ?_
            refine sf_iload rfl ?_
            refine sf_f2_gt (fun h100 => ?_) (fun h100 => ?_)
            · refine sf_iconst sf_c0 (fun z101 ez101 => ?_)
              refine sf_zreturn (by omega) rfl rfl ?_
              refine sf_f1_eq (fun h102 => ?_) (fun h102 => absurd h102 (by omega))
              refine sf_iconst sf_c0 (fun z103 ez103 => ?_)
              refine sf_istore (L' := [(0, .inl (.ref 71)), (1, .inl (.int a_heading)), (2, .inl (.int a_land)), (3, .inl (.int a_kind)), (4, .inl (.int a_a)), (5, .inl (.int a_b)), (6, .inl (.int a_from)), (7, .inl (.int a_to))]) rfl ?_
              refine sf_aload rfl ?_
              refine sf_iload rfl ?_
              refine sf_f1_eq (fun h104 => ?_) (fun h104 => absurd h104 (by omega))
              refine sf_iconst sf_c1 (fun z105 ez105 => ?_)
              refine sf_puti hI0 hs0 rfl rfl (sf_bd _) rfl rfl rfl (fun w106 Iw106 sw106 kw106 uw106 => ?_)
              have c107 := sf_mf kw106 (p := 71) (j := 10) rfl
              have c108 := sf_ma kw106 (p := 79) rfl
              have c109 := sf_ma kw106 (p := 80) rfl
              have c110 := sf_ma kw106 (p := 81) rfl
              have c111 := sf_ma kw106 (p := 82) rfl
              have c112 := sf_ma kw106 (p := 83) rfl
              have c113 := sf_ma kw106 (p := 84) rfl
              have c114 := sf_ma kw106 (p := 85) rfl
              clear kw106
              refine sf_aload rfl ?_
              refine sf_geti Iw106 rfl rfl (fun v115 lv115 uv115 ev115 => ?_)
              rw [uw106] at ev115
              refine sf_f1_le (fun h116 => absurd h116 (by omega)) (fun h116 => ?_)
              refine sf_iconst sf_c0 (fun z117 ez117 => ?_)
              refine sf_ireturn rfl rfl ?_
              exact hR _ _ Iw106 sw106 (by omega) (by omega) (by rw [uw106]; rw [c107]; first | (refine Or.inl ⟨by omega, ?_⟩; omega) | (refine Or.inr (Or.inl ⟨by omega, ?_⟩); omega) | (refine Or.inr (Or.inr ⟨by omega, ?_⟩); omega)) (by rw [uw106]; rw [c108]; first | exact Or.inl ⟨by omega, rfl⟩ | exact Or.inr ⟨by omega, u79⟩) (by rw [uw106]; rw [c109]; first | exact Or.inl ⟨by omega, rfl⟩ | exact Or.inr ⟨by omega, u80⟩) (by rw [uw106]; rw [c110]; first | exact Or.inl ⟨by omega, rfl⟩ | exact Or.inr ⟨by omega, u81⟩) (by rw [uw106]; rw [c111]; first | exact Or.inl ⟨by omega, rfl⟩ | exact Or.inr ⟨by omega, u82⟩) (by rw [uw106]; rw [c112]; first | exact Or.inl ⟨by omega, rfl⟩ | exact Or.inr ⟨by omega, u83⟩) (by rw [uw106]; rw [c113]; first | exact Or.inl ⟨by omega, rfl⟩ | exact Or.inr ⟨by omega, u84⟩) (by rw [uw106]; rw [c114]; first | exact Or.inl ⟨by omega, rfl⟩ | exact Or.inr ⟨by omega, u85⟩)
            · refine sf_iconst sf_c1 (fun z118 ez118 => ?_)
              refine sf_zreturn (by omega) rfl rfl ?_
              refine sf_f1_eq (fun h119 => absurd h119 (by omega)) (fun h119 => ?_)
              refine sf_iload rfl ?_
              refine sf_iconst sf_c0 (fun z120 ez120 => ?_)
              refine sf_iconst sf_c10000 (fun z121 ez121 => ?_)
              refine sf_call3 rfl rfl rfl ?_
              refine sf_sp (L := [(0, .inl (.int a_a)), (1, .inl (.int z120)), (2, .inl (.int z121))]) rfl rfl ?_
              refine sf_iload rfl ?_
              refine sf_iload rfl ?_
              refine sf_f2_lt (fun h122 => ?_) (fun h122 => ?_)
              · refine sf_iconst sf_c0 (fun z123 ez123 => ?_)
                refine sf_zreturn (by omega) rfl rfl ?_
                refine sf_f1_eq (fun h124 => ?_) (fun h124 => absurd h124 (by omega))
                refine sf_iconst sf_c0 (fun z125 ez125 => ?_)
                refine sf_istore (L' := [(0, .inl (.ref 71)), (1, .inl (.int a_heading)), (2, .inl (.int a_land)), (3, .inl (.int a_kind)), (4, .inl (.int a_a)), (5, .inl (.int a_b)), (6, .inl (.int a_from)), (7, .inl (.int a_to))]) rfl ?_
                refine sf_aload rfl ?_
                refine sf_iload rfl ?_
                refine sf_f1_eq (fun h126 => ?_) (fun h126 => absurd h126 (by omega))
                refine sf_iconst sf_c1 (fun z127 ez127 => ?_)
                refine sf_puti hI0 hs0 rfl rfl (sf_bd _) rfl rfl rfl (fun w128 Iw128 sw128 kw128 uw128 => ?_)
                have c129 := sf_mf kw128 (p := 71) (j := 10) rfl
                have c130 := sf_ma kw128 (p := 79) rfl
                have c131 := sf_ma kw128 (p := 80) rfl
                have c132 := sf_ma kw128 (p := 81) rfl
                have c133 := sf_ma kw128 (p := 82) rfl
                have c134 := sf_ma kw128 (p := 83) rfl
                have c135 := sf_ma kw128 (p := 84) rfl
                have c136 := sf_ma kw128 (p := 85) rfl
                clear kw128
                refine sf_aload rfl ?_
                refine sf_geti Iw128 rfl rfl (fun v137 lv137 uv137 ev137 => ?_)
                rw [uw128] at ev137
                refine sf_f1_le (fun h138 => absurd h138 (by omega)) (fun h138 => ?_)
                refine sf_iconst sf_c0 (fun z139 ez139 => ?_)
                refine sf_ireturn rfl rfl ?_
                exact hR _ _ Iw128 sw128 (by omega) (by omega) (by rw [uw128]; rw [c129]; first | (refine Or.inl ⟨by omega, ?_⟩; omega) | (refine Or.inr (Or.inl ⟨by omega, ?_⟩); omega) | (refine Or.inr (Or.inr ⟨by omega, ?_⟩); omega)) (by rw [uw128]; rw [c130]; first | exact Or.inl ⟨by omega, rfl⟩ | exact Or.inr ⟨by omega, u79⟩) (by rw [uw128]; rw [c131]; first | exact Or.inl ⟨by omega, rfl⟩ | exact Or.inr ⟨by omega, u80⟩) (by rw [uw128]; rw [c132]; first | exact Or.inl ⟨by omega, rfl⟩ | exact Or.inr ⟨by omega, u81⟩) (by rw [uw128]; rw [c133]; first | exact Or.inl ⟨by omega, rfl⟩ | exact Or.inr ⟨by omega, u82⟩) (by rw [uw128]; rw [c134]; first | exact Or.inl ⟨by omega, rfl⟩ | exact Or.inr ⟨by omega, u83⟩) (by rw [uw128]; rw [c135]; first | exact Or.inl ⟨by omega, rfl⟩ | exact Or.inr ⟨by omega, u84⟩) (by rw [uw128]; rw [c136]; first | exact Or.inl ⟨by omega, rfl⟩ | exact Or.inr ⟨by omega, u85⟩)
              · refine sf_iload rfl ?_
                refine sf_iload rfl ?_
                refine sf_f2_gt (fun h140 => ?_) (fun h140 => ?_)
                · refine sf_iconst sf_c0 (fun z141 ez141 => ?_)
                  refine sf_zreturn (by omega) rfl rfl ?_
                  refine sf_f1_eq (fun h142 => ?_) (fun h142 => absurd h142 (by omega))
                  refine sf_iconst sf_c0 (fun z143 ez143 => ?_)
                  refine sf_istore (L' := [(0, .inl (.ref 71)), (1, .inl (.int a_heading)), (2, .inl (.int a_land)), (3, .inl (.int a_kind)), (4, .inl (.int a_a)), (5, .inl (.int a_b)), (6, .inl (.int a_from)), (7, .inl (.int a_to))]) rfl ?_
                  refine sf_aload rfl ?_
                  refine sf_iload rfl ?_
                  refine sf_f1_eq (fun h144 => ?_) (fun h144 => absurd h144 (by omega))
                  refine sf_iconst sf_c1 (fun z145 ez145 => ?_)
                  refine sf_puti hI0 hs0 rfl rfl (sf_bd _) rfl rfl rfl (fun w146 Iw146 sw146 kw146 uw146 => ?_)
                  have c147 := sf_mf kw146 (p := 71) (j := 10) rfl
                  have c148 := sf_ma kw146 (p := 79) rfl
                  have c149 := sf_ma kw146 (p := 80) rfl
                  have c150 := sf_ma kw146 (p := 81) rfl
                  have c151 := sf_ma kw146 (p := 82) rfl
                  have c152 := sf_ma kw146 (p := 83) rfl
                  have c153 := sf_ma kw146 (p := 84) rfl
                  have c154 := sf_ma kw146 (p := 85) rfl
                  clear kw146
                  refine sf_aload rfl ?_
                  refine sf_geti Iw146 rfl rfl (fun v155 lv155 uv155 ev155 => ?_)
                  rw [uw146] at ev155
                  refine sf_f1_le (fun h156 => absurd h156 (by omega)) (fun h156 => ?_)
                  refine sf_iconst sf_c0 (fun z157 ez157 => ?_)
                  refine sf_ireturn rfl rfl ?_
                  exact hR _ _ Iw146 sw146 (by omega) (by omega) (by rw [uw146]; rw [c147]; first | (refine Or.inl ⟨by omega, ?_⟩; omega) | (refine Or.inr (Or.inl ⟨by omega, ?_⟩); omega) | (refine Or.inr (Or.inr ⟨by omega, ?_⟩); omega)) (by rw [uw146]; rw [c148]; first | exact Or.inl ⟨by omega, rfl⟩ | exact Or.inr ⟨by omega, u79⟩) (by rw [uw146]; rw [c149]; first | exact Or.inl ⟨by omega, rfl⟩ | exact Or.inr ⟨by omega, u80⟩) (by rw [uw146]; rw [c150]; first | exact Or.inl ⟨by omega, rfl⟩ | exact Or.inr ⟨by omega, u81⟩) (by rw [uw146]; rw [c151]; first | exact Or.inl ⟨by omega, rfl⟩ | exact Or.inr ⟨by omega, u82⟩) (by rw [uw146]; rw [c152]; first | exact Or.inl ⟨by omega, rfl⟩ | exact Or.inr ⟨by omega, u83⟩) (by rw [uw146]; rw [c153]; first | exact Or.inl ⟨by omega, rfl⟩ | exact Or.inr ⟨by omega, u84⟩) (by rw [uw146]; rw [c154]; first | exact Or.inl ⟨by omega, rfl⟩ | exact Or.inr ⟨by omega, u85⟩)
                · refine sf_iconst sf_c1 (fun z158 ez158 => ?_)
                  refine sf_zreturn (by omega) rfl rfl ?_
                  refine sf_f1_eq (fun h159 => absurd h159 (by omega)) (fun h159 => ?_)
                  refine sf_iload rfl ?_
                  refine sf_iconst sf_c0 (fun z160 ez160 => ?_)
                  refine sf_iconst sf_c10000 (fun z161 ez161 => ?_)
                  refine sf_call3 rfl rfl rfl ?_
                  refine sf_sp (L := [(0, .inl (.int a_b)), (1, .inl (.int z160)), (2, .inl (.int z161))]) rfl rfl ?_
                  refine sf_iload rfl ?_
                  refine sf_iload rfl ?_
                  refine sf_f2_lt (fun h162 => ?_) (fun h162 => ?_)
                  · refine sf_iconst sf_c0 (fun z163 ez163 => ?_)
                    refine sf_zreturn (by omega) rfl rfl ?_
                    refine sf_f1_eq (fun h164 => ?_) (fun h164 => absurd h164 (by omega))
                    refine sf_iconst sf_c0 (fun z165 ez165 => ?_)
                    refine sf_istore (L' := [(0, .inl (.ref 71)), (1, .inl (.int a_heading)), (2, .inl (.int a_land)), (3, .inl (.int a_kind)), (4, .inl (.int a_a)), (5, .inl (.int a_b)), (6, .inl (.int a_from)), (7, .inl (.int a_to))]) rfl ?_
                    refine sf_aload rfl ?_
                    refine sf_iload rfl ?_
                    refine sf_f1_eq (fun h166 => ?_) (fun h166 => absurd h166 (by omega))
                    refine sf_iconst sf_c1 (fun z167 ez167 => ?_)
                    refine sf_puti hI0 hs0 rfl rfl (sf_bd _) rfl rfl rfl (fun w168 Iw168 sw168 kw168 uw168 => ?_)
                    have c169 := sf_mf kw168 (p := 71) (j := 10) rfl
                    have c170 := sf_ma kw168 (p := 79) rfl
                    have c171 := sf_ma kw168 (p := 80) rfl
                    have c172 := sf_ma kw168 (p := 81) rfl
                    have c173 := sf_ma kw168 (p := 82) rfl
                    have c174 := sf_ma kw168 (p := 83) rfl
                    have c175 := sf_ma kw168 (p := 84) rfl
                    have c176 := sf_ma kw168 (p := 85) rfl
                    clear kw168
                    refine sf_aload rfl ?_
                    refine sf_geti Iw168 rfl rfl (fun v177 lv177 uv177 ev177 => ?_)
                    rw [uw168] at ev177
                    refine sf_f1_le (fun h178 => absurd h178 (by omega)) (fun h178 => ?_)
                    refine sf_iconst sf_c0 (fun z179 ez179 => ?_)
                    refine sf_ireturn rfl rfl ?_
                    exact hR _ _ Iw168 sw168 (by omega) (by omega) (by rw [uw168]; rw [c169]; first | (refine Or.inl ⟨by omega, ?_⟩; omega) | (refine Or.inr (Or.inl ⟨by omega, ?_⟩); omega) | (refine Or.inr (Or.inr ⟨by omega, ?_⟩); omega)) (by rw [uw168]; rw [c170]; first | exact Or.inl ⟨by omega, rfl⟩ | exact Or.inr ⟨by omega, u79⟩) (by rw [uw168]; rw [c171]; first | exact Or.inl ⟨by omega, rfl⟩ | exact Or.inr ⟨by omega, u80⟩) (by rw [uw168]; rw [c172]; first | exact Or.inl ⟨by omega, rfl⟩ | exact Or.inr ⟨by omega, u81⟩) (by rw [uw168]; rw [c173]; first | exact Or.inl ⟨by omega, rfl⟩ | exact Or.inr ⟨by omega, u82⟩) (by rw [uw168]; rw [c174]; first | exact Or.inl ⟨by omega, rfl⟩ | exact Or.inr ⟨by omega, u83⟩) (by rw [uw168]; rw [c175]; first | exact Or.inl ⟨by omega, rfl⟩ | exact Or.inr ⟨by omega, u84⟩) (by rw [uw168]; rw [c176]; first | exact Or.inl ⟨by omega, rfl⟩ | exact Or.inr ⟨by omega, u85⟩)
                  · refine sf_iload rfl ?_
                    refine sf_iload rfl ?_
                    refine sf_f2_gt (fun h180 => ?_) (fun h180 => ?_)
                    · refine sf_iconst sf_c0 (fun z181 ez181 => ?_)
                      refine sf_zreturn (by omega) rfl rfl ?_
                      refine sf_f1_eq (fun h182 => ?_) (fun h182 => absurd h182 (by omega))
                      refine sf_iconst sf_c0 (fun z183 ez183 => ?_)
                      refine sf_istore (L' := [(0, .inl (.ref 71)), (1, .inl (.int a_heading)), (2, .inl (.int a_land)), (3, .inl (.int a_kind)), (4, .inl (.int a_a)), (5, .inl (.int a_b)), (6, .inl (.int a_from)), (7, .inl (.int a_to))]) rfl ?_
                      refine sf_aload rfl ?_
                      refine sf_iload rfl ?_
                      refine sf_f1_eq (fun h184 => ?_) (fun h184 => absurd h184 (by omega))
                      refine sf_iconst sf_c1 (fun z185 ez185 => ?_)
                      refine sf_puti hI0 hs0 rfl rfl (sf_bd _) rfl rfl rfl (fun w186 Iw186 sw186 kw186 uw186 => ?_)
                      have c187 := sf_mf kw186 (p := 71) (j := 10) rfl
                      have c188 := sf_ma kw186 (p := 79) rfl
                      have c189 := sf_ma kw186 (p := 80) rfl
                      have c190 := sf_ma kw186 (p := 81) rfl
                      have c191 := sf_ma kw186 (p := 82) rfl
                      have c192 := sf_ma kw186 (p := 83) rfl
                      have c193 := sf_ma kw186 (p := 84) rfl
                      have c194 := sf_ma kw186 (p := 85) rfl
                      clear kw186
                      refine sf_aload rfl ?_
                      refine sf_geti Iw186 rfl rfl (fun v195 lv195 uv195 ev195 => ?_)
                      rw [uw186] at ev195
                      refine sf_f1_le (fun h196 => absurd h196 (by omega)) (fun h196 => ?_)
                      refine sf_iconst sf_c0 (fun z197 ez197 => ?_)
                      refine sf_ireturn rfl rfl ?_
                      exact hR _ _ Iw186 sw186 (by omega) (by omega) (by rw [uw186]; rw [c187]; first | (refine Or.inl ⟨by omega, ?_⟩; omega) | (refine Or.inr (Or.inl ⟨by omega, ?_⟩); omega) | (refine Or.inr (Or.inr ⟨by omega, ?_⟩); omega)) (by rw [uw186]; rw [c188]; first | exact Or.inl ⟨by omega, rfl⟩ | exact Or.inr ⟨by omega, u79⟩) (by rw [uw186]; rw [c189]; first | exact Or.inl ⟨by omega, rfl⟩ | exact Or.inr ⟨by omega, u80⟩) (by rw [uw186]; rw [c190]; first | exact Or.inl ⟨by omega, rfl⟩ | exact Or.inr ⟨by omega, u81⟩) (by rw [uw186]; rw [c191]; first | exact Or.inl ⟨by omega, rfl⟩ | exact Or.inr ⟨by omega, u82⟩) (by rw [uw186]; rw [c192]; first | exact Or.inl ⟨by omega, rfl⟩ | exact Or.inr ⟨by omega, u83⟩) (by rw [uw186]; rw [c193]; first | exact Or.inl ⟨by omega, rfl⟩ | exact Or.inr ⟨by omega, u84⟩) (by rw [uw186]; rw [c194]; first | exact Or.inl ⟨by omega, rfl⟩ | exact Or.inr ⟨by omega, u85⟩)
                    · refine sf_iconst sf_c1 (fun z198 ez198 => ?_)
                      refine sf_zreturn (by omega) rfl rfl ?_
                      refine sf_f1_eq (fun h199 => absurd h199 (by omega)) (fun h199 => ?_)
                      refine sf_iconst sf_c1 (fun z200 ez200 => ?_)
                      refine sf_istore (L' := [(0, .inl (.ref 71)), (1, .inl (.int a_heading)), (2, .inl (.int a_land)), (3, .inl (.int a_kind)), (4, .inl (.int a_a)), (5, .inl (.int a_b)), (6, .inl (.int a_from)), (7, .inl (.int a_to))]) rfl ?_
                      refine sf_aload rfl ?_
                      refine sf_iload rfl ?_
                      refine sf_f1_eq (fun h201 => absurd h201 (by omega)) (fun h201 => ?_)
                      refine sf_iload rfl ?_
                      refine sf_f1_lt (fun h202 => ?_) (fun h202 => ?_)
                      · refine sf_iconst sf_c1 (fun z203 ez203 => ?_)
                        refine sf_puti hI0 hs0 rfl rfl (sf_bd _) rfl rfl rfl (fun w204 Iw204 sw204 kw204 uw204 => ?_)
                        have c205 := sf_mf kw204 (p := 71) (j := 10) rfl
                        have c206 := sf_ma kw204 (p := 79) rfl
                        have c207 := sf_ma kw204 (p := 80) rfl
                        have c208 := sf_ma kw204 (p := 81) rfl
                        have c209 := sf_ma kw204 (p := 82) rfl
                        have c210 := sf_ma kw204 (p := 83) rfl
                        have c211 := sf_ma kw204 (p := 84) rfl
                        have c212 := sf_ma kw204 (p := 85) rfl
                        clear kw204
                        refine sf_aload rfl ?_
                        refine sf_geti Iw204 rfl rfl (fun v213 lv213 uv213 ev213 => ?_)
                        rw [uw204] at ev213
                        refine sf_f1_le (fun h214 => absurd h214 (by omega)) (fun h214 => ?_)
                        refine sf_iconst sf_c0 (fun z215 ez215 => ?_)
                        refine sf_ireturn rfl rfl ?_
                        exact hR _ _ Iw204 sw204 (by omega) (by omega) (by rw [uw204]; rw [c205]; first | (refine Or.inl ⟨by omega, ?_⟩; omega) | (refine Or.inr (Or.inl ⟨by omega, ?_⟩); omega) | (refine Or.inr (Or.inr ⟨by omega, ?_⟩); omega)) (by rw [uw204]; rw [c206]; first | exact Or.inl ⟨by omega, rfl⟩ | exact Or.inr ⟨by omega, u79⟩) (by rw [uw204]; rw [c207]; first | exact Or.inl ⟨by omega, rfl⟩ | exact Or.inr ⟨by omega, u80⟩) (by rw [uw204]; rw [c208]; first | exact Or.inl ⟨by omega, rfl⟩ | exact Or.inr ⟨by omega, u81⟩) (by rw [uw204]; rw [c209]; first | exact Or.inl ⟨by omega, rfl⟩ | exact Or.inr ⟨by omega, u82⟩) (by rw [uw204]; rw [c210]; first | exact Or.inl ⟨by omega, rfl⟩ | exact Or.inr ⟨by omega, u83⟩) (by rw [uw204]; rw [c211]; first | exact Or.inl ⟨by omega, rfl⟩ | exact Or.inr ⟨by omega, u84⟩) (by rw [uw204]; rw [c212]; first | exact Or.inl ⟨by omega, rfl⟩ | exact Or.inr ⟨by omega, u85⟩)
                      · refine sf_iload rfl ?_
                        refine sf_iload rfl ?_
                        refine sf_f2_gt (fun h216 => ?_) (fun h216 => ?_)
                        · refine sf_iconst sf_c1 (fun z217 ez217 => ?_)
                          refine sf_puti hI0 hs0 rfl rfl (sf_bd _) rfl rfl rfl (fun w218 Iw218 sw218 kw218 uw218 => ?_)
                          have c219 := sf_mf kw218 (p := 71) (j := 10) rfl
                          have c220 := sf_ma kw218 (p := 79) rfl
                          have c221 := sf_ma kw218 (p := 80) rfl
                          have c222 := sf_ma kw218 (p := 81) rfl
                          have c223 := sf_ma kw218 (p := 82) rfl
                          have c224 := sf_ma kw218 (p := 83) rfl
                          have c225 := sf_ma kw218 (p := 84) rfl
                          have c226 := sf_ma kw218 (p := 85) rfl
                          clear kw218
                          refine sf_aload rfl ?_
                          refine sf_geti Iw218 rfl rfl (fun v227 lv227 uv227 ev227 => ?_)
                          rw [uw218] at ev227
                          refine sf_f1_le (fun h228 => absurd h228 (by omega)) (fun h228 => ?_)
                          refine sf_iconst sf_c0 (fun z229 ez229 => ?_)
                          refine sf_ireturn rfl rfl ?_
                          exact hR _ _ Iw218 sw218 (by omega) (by omega) (by rw [uw218]; rw [c219]; first | (refine Or.inl ⟨by omega, ?_⟩; omega) | (refine Or.inr (Or.inl ⟨by omega, ?_⟩); omega) | (refine Or.inr (Or.inr ⟨by omega, ?_⟩); omega)) (by rw [uw218]; rw [c220]; first | exact Or.inl ⟨by omega, rfl⟩ | exact Or.inr ⟨by omega, u79⟩) (by rw [uw218]; rw [c221]; first | exact Or.inl ⟨by omega, rfl⟩ | exact Or.inr ⟨by omega, u80⟩) (by rw [uw218]; rw [c222]; first | exact Or.inl ⟨by omega, rfl⟩ | exact Or.inr ⟨by omega, u81⟩) (by rw [uw218]; rw [c223]; first | exact Or.inl ⟨by omega, rfl⟩ | exact Or.inr ⟨by omega, u82⟩) (by rw [uw218]; rw [c224]; first | exact Or.inl ⟨by omega, rfl⟩ | exact Or.inr ⟨by omega, u83⟩) (by rw [uw218]; rw [c225]; first | exact Or.inl ⟨by omega, rfl⟩ | exact Or.inr ⟨by omega, u84⟩) (by rw [uw218]; rw [c226]; first | exact Or.inl ⟨by omega, rfl⟩ | exact Or.inr ⟨by omega, u85⟩)
                        · refine sf_iload rfl ?_
                          refine sf_iconst sf_c9999 (fun z230 ez230 => ?_)
                          refine sf_f2_le (fun h231 => ?_) (fun h231 => ?_)
                          · refine sf_aload rfl ?_
                            refine sf_geti hI0 rfl rfl (fun v232 lv232 uv232 ev232 => ?_)
                            refine sf_iconst sf_c40 (fun z233 ez233 => ?_)
                            refine sf_f2_eq (fun h234 => ?_) (fun h234 => ?_)
                            · refine sf_iconst sf_c2 (fun z235 ez235 => ?_)
                              refine sf_puti hI0 hs0 rfl rfl (sf_bd _) rfl rfl rfl (fun w236 Iw236 sw236 kw236 uw236 => ?_)
                              have c237 := sf_mf kw236 (p := 71) (j := 10) rfl
                              have c238 := sf_ma kw236 (p := 79) rfl
                              have c239 := sf_ma kw236 (p := 80) rfl
                              have c240 := sf_ma kw236 (p := 81) rfl
                              have c241 := sf_ma kw236 (p := 82) rfl
                              have c242 := sf_ma kw236 (p := 83) rfl
                              have c243 := sf_ma kw236 (p := 84) rfl
                              have c244 := sf_ma kw236 (p := 85) rfl
                              clear kw236
                              refine sf_aload rfl ?_
                              refine sf_geti Iw236 rfl rfl (fun v245 lv245 uv245 ev245 => ?_)
                              rw [uw236] at ev245
                              refine sf_f1_le (fun h246 => absurd h246 (by omega)) (fun h246 => ?_)
                              refine sf_iconst sf_c0 (fun z247 ez247 => ?_)
                              refine sf_ireturn rfl rfl ?_
                              exact hR _ _ Iw236 sw236 (by omega) (by omega) (by rw [uw236]; rw [c237]; first | (refine Or.inl ⟨by omega, ?_⟩; omega) | (refine Or.inr (Or.inl ⟨by omega, ?_⟩); omega) | (refine Or.inr (Or.inr ⟨by omega, ?_⟩); omega)) (by rw [uw236]; rw [c238]; first | exact Or.inl ⟨by omega, rfl⟩ | exact Or.inr ⟨by omega, u79⟩) (by rw [uw236]; rw [c239]; first | exact Or.inl ⟨by omega, rfl⟩ | exact Or.inr ⟨by omega, u80⟩) (by rw [uw236]; rw [c240]; first | exact Or.inl ⟨by omega, rfl⟩ | exact Or.inr ⟨by omega, u81⟩) (by rw [uw236]; rw [c241]; first | exact Or.inl ⟨by omega, rfl⟩ | exact Or.inr ⟨by omega, u82⟩) (by rw [uw236]; rw [c242]; first | exact Or.inl ⟨by omega, rfl⟩ | exact Or.inr ⟨by omega, u83⟩) (by rw [uw236]; rw [c243]; first | exact Or.inl ⟨by omega, rfl⟩ | exact Or.inr ⟨by omega, u84⟩) (by rw [uw236]; rw [c244]; first | exact Or.inl ⟨by omega, rfl⟩ | exact Or.inr ⟨by omega, u85⟩)
                            · refine sf_iconst sf_c0 (fun z248 ez248 => ?_)
                              refine sf_puti hI0 hs0 rfl rfl (sf_bd _) rfl rfl rfl (fun w249 Iw249 sw249 kw249 uw249 => ?_)
                              have c250 := sf_mf kw249 (p := 71) (j := 10) rfl
                              have c251 := sf_ma kw249 (p := 79) rfl
                              have c252 := sf_ma kw249 (p := 80) rfl
                              have c253 := sf_ma kw249 (p := 81) rfl
                              have c254 := sf_ma kw249 (p := 82) rfl
                              have c255 := sf_ma kw249 (p := 83) rfl
                              have c256 := sf_ma kw249 (p := 84) rfl
                              have c257 := sf_ma kw249 (p := 85) rfl
                              clear kw249
                              refine sf_aload rfl ?_
                              refine sf_geti Iw249 rfl rfl (fun v258 lv258 uv258 ev258 => ?_)
                              rw [uw249] at ev258
                              refine sf_f1_le (fun h259 => ?_) (fun h259 => absurd h259 (by omega))
                              refine sf_aload rfl ?_
                              refine sf_getr Iw249 rfl rfl ?_
                              refine sf_aload rfl ?_
                              refine sf_geti Iw249 rfl rfl (fun v260 lv260 uv260 ev260 => ?_)
                              rw [c250] at ev260
                              refine sf_iload rfl ?_
                              refine sf_iast Iw249 sw249 rfl (by omega) (sf_bd _) rfl rfl (fun w261 Iw261 sw261 kw261 uw261 => ?_)
                              have c262 := sf_mf kw261 (p := 71) (j := 0) rfl
                              have c263 := sf_mf kw261 (p := 71) (j := 10) rfl
                              have c264 := sf_ma kw261 (p := 80) rfl
                              have c265 := sf_ma kw261 (p := 81) rfl
                              have c266 := sf_ma kw261 (p := 82) rfl
                              have c267 := sf_ma kw261 (p := 83) rfl
                              have c268 := sf_ma kw261 (p := 84) rfl
                              have c269 := sf_ma kw261 (p := 85) rfl
                              clear kw261
                              have u79 := uw261
                              rw [show v260.toInt = (sf_f w0 71 10).toInt by omega] at u79
                              rw [c251] at u79
                              refine sf_aload rfl ?_
                              refine sf_getr Iw261 rfl rfl ?_
                              refine sf_aload rfl ?_
                              refine sf_geti Iw261 rfl rfl (fun v270 lv270 uv270 ev270 => ?_)
                              rw [c263, c250] at ev270
                              refine sf_iload rfl ?_
                              refine sf_iast Iw261 sw261 rfl (by omega) (sf_bd _) rfl rfl (fun w271 Iw271 sw271 kw271 uw271 => ?_)
                              have c272 := sf_mf kw271 (p := 71) (j := 0) rfl
                              have c273 := sf_mf kw271 (p := 71) (j := 10) rfl
                              have c274 := sf_ma kw271 (p := 79) rfl
                              have c275 := sf_ma kw271 (p := 81) rfl
                              have c276 := sf_ma kw271 (p := 82) rfl
                              have c277 := sf_ma kw271 (p := 83) rfl
                              have c278 := sf_ma kw271 (p := 84) rfl
                              have c279 := sf_ma kw271 (p := 85) rfl
                              clear kw271
                              have u80 := uw271
                              rw [show v270.toInt = (sf_f w0 71 10).toInt by omega] at u80
                              rw [c264, c252] at u80
                              refine sf_aload rfl ?_
                              refine sf_getr Iw271 rfl rfl ?_
                              refine sf_aload rfl ?_
                              refine sf_geti Iw271 rfl rfl (fun v280 lv280 uv280 ev280 => ?_)
                              rw [c273, c263, c250] at ev280
                              refine sf_iload rfl ?_
                              refine sf_iast Iw271 sw271 rfl (by omega) (sf_bd _) rfl rfl (fun w281 Iw281 sw281 kw281 uw281 => ?_)
                              have c282 := sf_mf kw281 (p := 71) (j := 0) rfl
                              have c283 := sf_mf kw281 (p := 71) (j := 10) rfl
                              have c284 := sf_ma kw281 (p := 79) rfl
                              have c285 := sf_ma kw281 (p := 80) rfl
                              have c286 := sf_ma kw281 (p := 82) rfl
                              have c287 := sf_ma kw281 (p := 83) rfl
                              have c288 := sf_ma kw281 (p := 84) rfl
                              have c289 := sf_ma kw281 (p := 85) rfl
                              clear kw281
                              have u81 := uw281
                              rw [show v280.toInt = (sf_f w0 71 10).toInt by omega] at u81
                              rw [c275, c265, c253] at u81
                              refine sf_aload rfl ?_
                              refine sf_getr Iw281 rfl rfl ?_
                              refine sf_aload rfl ?_
                              refine sf_geti Iw281 rfl rfl (fun v290 lv290 uv290 ev290 => ?_)
                              rw [c283, c273, c263, c250] at ev290
                              refine sf_iload rfl ?_
                              refine sf_iast Iw281 sw281 rfl (by omega) (sf_bd _) rfl rfl (fun w291 Iw291 sw291 kw291 uw291 => ?_)
                              have c292 := sf_mf kw291 (p := 71) (j := 0) rfl
                              have c293 := sf_mf kw291 (p := 71) (j := 10) rfl
                              have c294 := sf_ma kw291 (p := 79) rfl
                              have c295 := sf_ma kw291 (p := 80) rfl
                              have c296 := sf_ma kw291 (p := 81) rfl
                              have c297 := sf_ma kw291 (p := 83) rfl
                              have c298 := sf_ma kw291 (p := 84) rfl
                              have c299 := sf_ma kw291 (p := 85) rfl
                              clear kw291
                              have u82 := uw291
                              rw [show v290.toInt = (sf_f w0 71 10).toInt by omega] at u82
                              rw [c286, c276, c266, c254] at u82
                              refine sf_aload rfl ?_
                              refine sf_getr Iw291 rfl rfl ?_
                              refine sf_aload rfl ?_
                              refine sf_geti Iw291 rfl rfl (fun v300 lv300 uv300 ev300 => ?_)
                              rw [c293, c283, c273, c263, c250] at ev300
                              refine sf_iload rfl ?_
                              refine sf_iast Iw291 sw291 rfl (by omega) (sf_bd _) rfl rfl (fun w301 Iw301 sw301 kw301 uw301 => ?_)
                              have c302 := sf_mf kw301 (p := 71) (j := 0) rfl
                              have c303 := sf_mf kw301 (p := 71) (j := 10) rfl
                              have c304 := sf_ma kw301 (p := 79) rfl
                              have c305 := sf_ma kw301 (p := 80) rfl
                              have c306 := sf_ma kw301 (p := 81) rfl
                              have c307 := sf_ma kw301 (p := 82) rfl
                              have c308 := sf_ma kw301 (p := 84) rfl
                              have c309 := sf_ma kw301 (p := 85) rfl
                              clear kw301
                              have u83 := uw301
                              rw [show v300.toInt = (sf_f w0 71 10).toInt by omega] at u83
                              rw [c297, c287, c277, c267, c255] at u83
                              refine sf_aload rfl ?_
                              refine sf_getr Iw301 rfl rfl ?_
                              refine sf_aload rfl ?_
                              refine sf_geti Iw301 rfl rfl (fun v310 lv310 uv310 ev310 => ?_)
                              rw [c303, c293, c283, c273, c263, c250] at ev310
                              refine sf_iload rfl ?_
                              refine sf_iast Iw301 sw301 rfl (by omega) (sf_bd _) rfl rfl (fun w311 Iw311 sw311 kw311 uw311 => ?_)
                              have c312 := sf_mf kw311 (p := 71) (j := 0) rfl
                              have c313 := sf_mf kw311 (p := 71) (j := 10) rfl
                              have c314 := sf_ma kw311 (p := 79) rfl
                              have c315 := sf_ma kw311 (p := 80) rfl
                              have c316 := sf_ma kw311 (p := 81) rfl
                              have c317 := sf_ma kw311 (p := 82) rfl
                              have c318 := sf_ma kw311 (p := 83) rfl
                              have c319 := sf_ma kw311 (p := 85) rfl
                              clear kw311
                              have u84 := uw311
                              rw [show v310.toInt = (sf_f w0 71 10).toInt by omega] at u84
                              rw [c308, c298, c288, c278, c268, c256] at u84
                              refine sf_aload rfl ?_
                              refine sf_getr Iw311 rfl rfl ?_
                              refine sf_aload rfl ?_
                              refine sf_geti Iw311 rfl rfl (fun v320 lv320 uv320 ev320 => ?_)
                              rw [c313, c303, c293, c283, c273, c263, c250] at ev320
                              refine sf_iload rfl ?_
                              refine sf_iast Iw311 sw311 rfl (by omega) (sf_bd _) rfl rfl (fun w321 Iw321 sw321 kw321 uw321 => ?_)
                              have c322 := sf_mf kw321 (p := 71) (j := 0) rfl
                              have c323 := sf_mf kw321 (p := 71) (j := 10) rfl
                              have c324 := sf_ma kw321 (p := 79) rfl
                              have c325 := sf_ma kw321 (p := 80) rfl
                              have c326 := sf_ma kw321 (p := 81) rfl
                              have c327 := sf_ma kw321 (p := 82) rfl
                              have c328 := sf_ma kw321 (p := 83) rfl
                              have c329 := sf_ma kw321 (p := 84) rfl
                              clear kw321
                              have u85 := uw321
                              rw [show v320.toInt = (sf_f w0 71 10).toInt by omega] at u85
                              rw [c319, c309, c299, c289, c279, c269, c257] at u85
                              refine sf_aload rfl ?_
                              refine sf_dup rfl ?_
                              refine sf_geti Iw321 rfl rfl (fun v330 lv330 uv330 ev330 => ?_)
                              rw [c323, c313, c303, c293, c283, c273, c263, c250] at ev330
                              refine sf_iconst sf_c1 (fun z331 ez331 => ?_)
                              refine sf_iadd (by omega) (fun v332 ev332 => ?_)
                              refine sf_puti Iw321 sw321 rfl rfl (by omega) rfl rfl rfl (fun w333 Iw333 sw333 kw333 uw333 => ?_)
                              have c334 := sf_mf kw333 (p := 71) (j := 0) rfl
                              have c335 := sf_ma kw333 (p := 79) rfl
                              have c336 := sf_ma kw333 (p := 80) rfl
                              have c337 := sf_ma kw333 (p := 81) rfl
                              have c338 := sf_ma kw333 (p := 82) rfl
                              have c339 := sf_ma kw333 (p := 83) rfl
                              have c340 := sf_ma kw333 (p := 84) rfl
                              have c341 := sf_ma kw333 (p := 85) rfl
                              clear kw333
                              refine sf_aload rfl ?_
                              refine sf_geti Iw333 rfl rfl (fun v342 lv342 uv342 ev342 => ?_)
                              rw [uw333] at ev342
                              refine sf_iconst sf_c1 (fun z343 ez343 => ?_)
                              refine sf_isub (by omega) (fun v344 ev344 => ?_)
                              refine sf_ireturn rfl rfl ?_
                              exact hR _ _ Iw333 sw333 (by omega) (by omega) (by rw [c334, c322, c312, c302, c292, c282, c272, c262, uw249]; rw [uw333]; first | (refine Or.inl ⟨by omega, ?_⟩; omega) | (refine Or.inr (Or.inl ⟨by omega, ?_⟩); omega) | (refine Or.inr (Or.inr ⟨by omega, ?_⟩); omega)) (by rw [c334, c322, c312, c302, c292, c282, c272, c262, uw249]; rw [c335, c324, c314, c304, c294, c284, c274]; first | exact Or.inl ⟨by omega, rfl⟩ | exact Or.inr ⟨by omega, u79⟩) (by rw [c334, c322, c312, c302, c292, c282, c272, c262, uw249]; rw [c336, c325, c315, c305, c295, c285]; first | exact Or.inl ⟨by omega, rfl⟩ | exact Or.inr ⟨by omega, u80⟩) (by rw [c334, c322, c312, c302, c292, c282, c272, c262, uw249]; rw [c337, c326, c316, c306, c296]; first | exact Or.inl ⟨by omega, rfl⟩ | exact Or.inr ⟨by omega, u81⟩) (by rw [c334, c322, c312, c302, c292, c282, c272, c262, uw249]; rw [c338, c327, c317, c307]; first | exact Or.inl ⟨by omega, rfl⟩ | exact Or.inr ⟨by omega, u82⟩) (by rw [c334, c322, c312, c302, c292, c282, c272, c262, uw249]; rw [c339, c328, c318]; first | exact Or.inl ⟨by omega, rfl⟩ | exact Or.inr ⟨by omega, u83⟩) (by rw [c334, c322, c312, c302, c292, c282, c272, c262, uw249]; rw [c340, c329]; first | exact Or.inl ⟨by omega, rfl⟩ | exact Or.inr ⟨by omega, u84⟩) (by rw [c334, c322, c312, c302, c292, c282, c272, c262, uw249]; rw [c341]; first | exact Or.inl ⟨by omega, rfl⟩ | exact Or.inr ⟨by omega, u85⟩)
                          · refine sf_iconst sf_c1 (fun z345 ez345 => ?_)
                            refine sf_puti hI0 hs0 rfl rfl (sf_bd _) rfl rfl rfl (fun w346 Iw346 sw346 kw346 uw346 => ?_)
                            have c347 := sf_mf kw346 (p := 71) (j := 10) rfl
                            have c348 := sf_ma kw346 (p := 79) rfl
                            have c349 := sf_ma kw346 (p := 80) rfl
                            have c350 := sf_ma kw346 (p := 81) rfl
                            have c351 := sf_ma kw346 (p := 82) rfl
                            have c352 := sf_ma kw346 (p := 83) rfl
                            have c353 := sf_ma kw346 (p := 84) rfl
                            have c354 := sf_ma kw346 (p := 85) rfl
                            clear kw346
                            refine sf_aload rfl ?_
                            refine sf_geti Iw346 rfl rfl (fun v355 lv355 uv355 ev355 => ?_)
                            rw [uw346] at ev355
                            refine sf_f1_le (fun h356 => absurd h356 (by omega)) (fun h356 => ?_)
                            refine sf_iconst sf_c0 (fun z357 ez357 => ?_)
                            refine sf_ireturn rfl rfl ?_
                            exact hR _ _ Iw346 sw346 (by omega) (by omega) (by rw [uw346]; rw [c347]; first | (refine Or.inl ⟨by omega, ?_⟩; omega) | (refine Or.inr (Or.inl ⟨by omega, ?_⟩); omega) | (refine Or.inr (Or.inr ⟨by omega, ?_⟩); omega)) (by rw [uw346]; rw [c348]; first | exact Or.inl ⟨by omega, rfl⟩ | exact Or.inr ⟨by omega, u79⟩) (by rw [uw346]; rw [c349]; first | exact Or.inl ⟨by omega, rfl⟩ | exact Or.inr ⟨by omega, u80⟩) (by rw [uw346]; rw [c350]; first | exact Or.inl ⟨by omega, rfl⟩ | exact Or.inr ⟨by omega, u81⟩) (by rw [uw346]; rw [c351]; first | exact Or.inl ⟨by omega, rfl⟩ | exact Or.inr ⟨by omega, u82⟩) (by rw [uw346]; rw [c352]; first | exact Or.inl ⟨by omega, rfl⟩ | exact Or.inr ⟨by omega, u83⟩) (by rw [uw346]; rw [c353]; first | exact Or.inl ⟨by omega, rfl⟩ | exact Or.inr ⟨by omega, u84⟩) (by rw [uw346]; rw [c354]; first | exact Or.inl ⟨by omega, rfl⟩ | exact Or.inr ⟨by omega, u85⟩)
def sm_M_rateFor : List Nat := [71, 8100]
set_option maxRecDepth 100000 in
set_option maxHeartbeats 4000000 in
theorem sc_M_rateFor {w0 : wq_W} (hI0 : sf_I w0) {rt : Option wq_V → wq_W → Prop} {xt : Nat → wq_W → Prop} {a_heading : Int32} {a_land : Int32} {a_when : Int32}  (hR : ∀ (r : Int32) (w : wq_W), sf_I w → sf_m sm_M_rateFor w0 w → (-1) ≤ r.toInt → r.toInt ≤ 39 → ((((sf_f w 71 0).toInt = 0 ∧ (0 ≤ a_heading.toInt ∧ a_heading.toInt < (sf_f w0 71 1).toInt ∧ 0 ≤ a_land.toInt ∧ a_land.toInt ≤ 7 ∧ 0 ≤ a_when.toInt ∧ a_when.toInt ≤ 9999) ∧ r.toInt = sr_up (sf_a w0 72) (sr_G (sf_a w0 79) (sf_a w0 80) (sf_a w0 84) (sf_a w0 85) a_land.toInt a_when.toInt (sf_f w0 71 10).toInt.toNat) (a_heading.toInt + 1).toNat a_heading.toInt) ∨ ((sf_f w 71 0).toInt = 1 ∧ ¬ (0 ≤ a_heading.toInt ∧ a_heading.toInt < (sf_f w0 71 1).toInt ∧ 0 ≤ a_land.toInt ∧ a_land.toInt ≤ 7 ∧ 0 ≤ a_when.toInt ∧ a_when.toInt ≤ 9999)))) → rt (some (.inl (.int r))) w) : ks_M_rateFor [.inl (.ref 71), .inl (.int a_heading), .inl (.int a_land), .inl (.int a_when)] w0 rt xt := by
  have hs0 : sf_m sm_M_rateFor w0 w0 := sf_m0
  refine sf_sp (L := [(0, .inl (.ref 71)), (1, .inl (.int a_heading)), (2, .inl (.int a_land)), (3, .inl (.int a_when))]) rfl rfl ?_
  refine sf_aload rfl ?_
  refine sf_aload rfl ?_
  refine sf_iload rfl ?_
  refine sf_call2 rfl rfl rfl ?_
  refine sf_rv hI0 rfl ?_
  refine sf_sp (L := [(0, .inl (.ref 71)), (1, .inl (.int a_heading))]) rfl rfl ?_
  refine sf_iload rfl ?_
  refine sf_f1_lt (fun h1 => ?_) (fun h1 => ?_)
  · refine sf_iconst sf_c0 (fun z2 ez2 => ?_)
    refine sf_zreturn (by omega) rfl rfl ?_
    refine sf_f1_eq (fun h3 => ?_) (fun h3 => absurd h3 (by omega))
    refine sf_iconst sf_c1 (fun z4 ez4 => ?_)
    refine sf_puti hI0 hs0 rfl rfl (sf_bd _) rfl rfl rfl (fun w5 Iw5 sw5 kw5 uw5 => ?_)
    clear kw5
    refine sf_aload rfl ?_
    refine sf_geti Iw5 rfl rfl (fun v6 lv6 uv6 ev6 => ?_)
    rw [uw5] at ev6
    refine sf_f1_le (fun h7 => absurd h7 (by omega)) (fun h7 => ?_)
    refine sf_iconst sf_c0 (fun z8 ez8 => ?_)
    refine sf_ireturn rfl rfl ?_
    exact hR _ _ Iw5 sw5 (by omega) (by omega) (by rw [uw5]; first | (refine Or.inl ⟨by omega, ?_⟩; omega) | (refine Or.inr ⟨by omega, ?_⟩; omega))
  · refine sf_iload rfl ?_
    refine sf_aload rfl ?_
    refine sf_geti hI0 rfl rfl (fun v9 lv9 uv9 ev9 => ?_)
    refine sf_f2_ge (fun h10 => ?_) (fun h10 => ?_)
    · refine sf_iconst sf_c0 (fun z11 ez11 => ?_)
      refine sf_zreturn (by omega) rfl rfl ?_
      refine sf_f1_eq (fun h12 => ?_) (fun h12 => absurd h12 (by omega))
      refine sf_iconst sf_c1 (fun z13 ez13 => ?_)
      refine sf_puti hI0 hs0 rfl rfl (sf_bd _) rfl rfl rfl (fun w14 Iw14 sw14 kw14 uw14 => ?_)
      clear kw14
      refine sf_aload rfl ?_
      refine sf_geti Iw14 rfl rfl (fun v15 lv15 uv15 ev15 => ?_)
      rw [uw14] at ev15
      refine sf_f1_le (fun h16 => absurd h16 (by omega)) (fun h16 => ?_)
      refine sf_iconst sf_c0 (fun z17 ez17 => ?_)
      refine sf_ireturn rfl rfl ?_
      exact hR _ _ Iw14 sw14 (by omega) (by omega) (by rw [uw14]; first | (refine Or.inl ⟨by omega, ?_⟩; omega) | (refine Or.inr ⟨by omega, ?_⟩; omega))
    · refine sf_iconst sf_c1 (fun z18 ez18 => ?_)
      refine sf_zreturn (by omega) rfl rfl ?_
      refine sf_f1_eq (fun h19 => absurd h19 (by omega)) (fun h19 => ?_)
      refine sf_iload rfl ?_
      refine sf_iconst sf_c0 (fun z20 ez20 => ?_)
      refine sf_iconst sf_c7 (fun z21 ez21 => ?_)
      refine sf_call3 rfl rfl rfl ?_
      refine sf_sp (L := [(0, .inl (.int a_land)), (1, .inl (.int z20)), (2, .inl (.int z21))]) rfl rfl ?_
      refine sf_iload rfl ?_
      refine sf_iload rfl ?_
      refine sf_f2_lt (fun h22 => ?_) (fun h22 => ?_)
      · refine sf_iconst sf_c0 (fun z23 ez23 => ?_)
        refine sf_zreturn (by omega) rfl rfl ?_
        refine sf_f1_eq (fun h24 => ?_) (fun h24 => absurd h24 (by omega))
        refine sf_iconst sf_c1 (fun z25 ez25 => ?_)
        refine sf_puti hI0 hs0 rfl rfl (sf_bd _) rfl rfl rfl (fun w26 Iw26 sw26 kw26 uw26 => ?_)
        clear kw26
        refine sf_aload rfl ?_
        refine sf_geti Iw26 rfl rfl (fun v27 lv27 uv27 ev27 => ?_)
        rw [uw26] at ev27
        refine sf_f1_le (fun h28 => absurd h28 (by omega)) (fun h28 => ?_)
        refine sf_iconst sf_c0 (fun z29 ez29 => ?_)
        refine sf_ireturn rfl rfl ?_
        exact hR _ _ Iw26 sw26 (by omega) (by omega) (by rw [uw26]; first | (refine Or.inl ⟨by omega, ?_⟩; omega) | (refine Or.inr ⟨by omega, ?_⟩; omega))
      · refine sf_iload rfl ?_
        refine sf_iload rfl ?_
        refine sf_f2_gt (fun h30 => ?_) (fun h30 => ?_)
        · refine sf_iconst sf_c0 (fun z31 ez31 => ?_)
          refine sf_zreturn (by omega) rfl rfl ?_
          refine sf_f1_eq (fun h32 => ?_) (fun h32 => absurd h32 (by omega))
          refine sf_iconst sf_c1 (fun z33 ez33 => ?_)
          refine sf_puti hI0 hs0 rfl rfl (sf_bd _) rfl rfl rfl (fun w34 Iw34 sw34 kw34 uw34 => ?_)
          clear kw34
          refine sf_aload rfl ?_
          refine sf_geti Iw34 rfl rfl (fun v35 lv35 uv35 ev35 => ?_)
          rw [uw34] at ev35
          refine sf_f1_le (fun h36 => absurd h36 (by omega)) (fun h36 => ?_)
          refine sf_iconst sf_c0 (fun z37 ez37 => ?_)
          refine sf_ireturn rfl rfl ?_
          exact hR _ _ Iw34 sw34 (by omega) (by omega) (by rw [uw34]; first | (refine Or.inl ⟨by omega, ?_⟩; omega) | (refine Or.inr ⟨by omega, ?_⟩; omega))
        · refine sf_iconst sf_c1 (fun z38 ez38 => ?_)
          refine sf_zreturn (by omega) rfl rfl ?_
          refine sf_f1_eq (fun h39 => absurd h39 (by omega)) (fun h39 => ?_)
          refine sf_iload rfl ?_
          refine sf_iconst sf_c0 (fun z40 ez40 => ?_)
          refine sf_iconst sf_c9999 (fun z41 ez41 => ?_)
          refine sf_call3 rfl rfl rfl ?_
          refine sf_sp (L := [(0, .inl (.int a_when)), (1, .inl (.int z40)), (2, .inl (.int z41))]) rfl rfl ?_
          refine sf_iload rfl ?_
          refine sf_iload rfl ?_
          refine sf_f2_lt (fun h42 => ?_) (fun h42 => ?_)
          · refine sf_iconst sf_c0 (fun z43 ez43 => ?_)
            refine sf_zreturn (by omega) rfl rfl ?_
            refine sf_f1_eq (fun h44 => ?_) (fun h44 => absurd h44 (by omega))
            refine sf_iconst sf_c1 (fun z45 ez45 => ?_)
            refine sf_puti hI0 hs0 rfl rfl (sf_bd _) rfl rfl rfl (fun w46 Iw46 sw46 kw46 uw46 => ?_)
            clear kw46
            refine sf_aload rfl ?_
            refine sf_geti Iw46 rfl rfl (fun v47 lv47 uv47 ev47 => ?_)
            rw [uw46] at ev47
            refine sf_f1_le (fun h48 => absurd h48 (by omega)) (fun h48 => ?_)
            refine sf_iconst sf_c0 (fun z49 ez49 => ?_)
            refine sf_ireturn rfl rfl ?_
            exact hR _ _ Iw46 sw46 (by omega) (by omega) (by rw [uw46]; first | (refine Or.inl ⟨by omega, ?_⟩; omega) | (refine Or.inr ⟨by omega, ?_⟩; omega))
          · refine sf_iload rfl ?_
            refine sf_iload rfl ?_
            refine sf_f2_gt (fun h50 => ?_) (fun h50 => ?_)
            · refine sf_iconst sf_c0 (fun z51 ez51 => ?_)
              refine sf_zreturn (by omega) rfl rfl ?_
              refine sf_f1_eq (fun h52 => ?_) (fun h52 => absurd h52 (by omega))
              refine sf_iconst sf_c1 (fun z53 ez53 => ?_)
              refine sf_puti hI0 hs0 rfl rfl (sf_bd _) rfl rfl rfl (fun w54 Iw54 sw54 kw54 uw54 => ?_)
              clear kw54
              refine sf_aload rfl ?_
              refine sf_geti Iw54 rfl rfl (fun v55 lv55 uv55 ev55 => ?_)
              rw [uw54] at ev55
              refine sf_f1_le (fun h56 => absurd h56 (by omega)) (fun h56 => ?_)
              refine sf_iconst sf_c0 (fun z57 ez57 => ?_)
              refine sf_ireturn rfl rfl ?_
              exact hR _ _ Iw54 sw54 (by omega) (by omega) (by rw [uw54]; first | (refine Or.inl ⟨by omega, ?_⟩; omega) | (refine Or.inr ⟨by omega, ?_⟩; omega))
            · refine sf_iconst sf_c1 (fun z58 ez58 => ?_)
              refine sf_zreturn (by omega) rfl rfl ?_
              refine sf_f1_eq (fun h59 => absurd h59 (by omega)) (fun h59 => ?_)
              refine sf_iconst sf_c0 (fun z60 ez60 => ?_)
              refine sf_puti hI0 hs0 rfl rfl (sf_bd _) rfl rfl rfl (fun w61 Iw61 sw61 kw61 uw61 => ?_)
              clear kw61
              refine sf_aload rfl ?_
              refine sf_geti Iw61 rfl rfl (fun v62 lv62 uv62 ev62 => ?_)
              rw [uw61] at ev62
              refine sf_f1_le (fun h63 => ?_) (fun h63 => absurd h63 (by omega))
              refine sf_aload rfl ?_
              refine sf_iload rfl ?_
              refine sf_iload rfl ?_
              refine sf_iload rfl ?_
              refine sf_call4 rfl rfl rfl ?_
              refine sf_rv Iw61 rfl ?_
              refine sc_M_rateOf Iw61 (by omega) (by omega) (by rw [sf_mf sw61 (p := 71) (j := 1) rfl]; omega) (fun v64 lv64 uv64 q65_0 => ?_)
              rw [sf_ma sw61 (p := 72) rfl] at q65_0
              rw [sf_ma sw61 (p := 79) rfl] at q65_0
              rw [sf_ma sw61 (p := 80) rfl] at q65_0
              rw [sf_ma sw61 (p := 84) rfl] at q65_0
              rw [sf_ma sw61 (p := 85) rfl] at q65_0
              rw [sf_mf sw61 (p := 71) (j := 10) rfl] at q65_0
              refine sf_ireturn rfl rfl ?_
              exact hR _ _ Iw61 sw61 (by omega) (by omega) (by rw [uw61]; first | (refine Or.inl ⟨by omega, ?_⟩; omega) | (refine Or.inr ⟨by omega, ?_⟩; omega))
def sm_M_quota : List Nat := [71, 86, 87, 88, 89, 90, 91, 8100, 8118]
set_option maxRecDepth 100000 in
set_option maxHeartbeats 4000000 in
theorem sc_M_quota {w0 : wq_W} (hI0 : sf_I w0) {rt : Option wq_V → wq_W → Prop} {xt : Nat → wq_W → Prop} {a_heading : Int32} {a_land : Int32} {a_units : Int32} {a_a : Int32} {a_from : Int32} {a_to : Int32}  (hR : ∀ (r : Int32) (w : wq_W), sf_I w → sf_m sm_M_quota w0 w → 0 ≤ r.toInt → r.toInt ≤ 8 → ((((sf_f w 71 0).toInt = 0 ∧ (0 ≤ a_heading.toInt ∧ a_heading.toInt < (sf_f w0 71 1).toInt ∧ 0 ≤ a_land.toInt ∧ a_land.toInt ≤ 7 ∧ 1 ≤ a_units.toInt ∧ a_units.toInt ≤ 100000 ∧ 0 ≤ a_a.toInt ∧ a_a.toInt ≤ 10000 ∧ 0 ≤ a_from.toInt ∧ a_from.toInt ≤ a_to.toInt ∧ a_to.toInt ≤ 9999) ∧ ((sf_f w0 71 18).toInt < 8) ∧ (sf_f w 71 18).toInt = (sf_f w0 71 18).toInt + 1 ∧ r.toInt = (sf_f w0 71 18).toInt) ∨ ((sf_f w 71 0).toInt = 1 ∧ ¬ (0 ≤ a_heading.toInt ∧ a_heading.toInt < (sf_f w0 71 1).toInt ∧ 0 ≤ a_land.toInt ∧ a_land.toInt ≤ 7 ∧ 1 ≤ a_units.toInt ∧ a_units.toInt ≤ 100000 ∧ 0 ≤ a_a.toInt ∧ a_a.toInt ≤ 10000 ∧ 0 ≤ a_from.toInt ∧ a_from.toInt ≤ a_to.toInt ∧ a_to.toInt ≤ 9999) ∧ (sf_f w 71 18).toInt = (sf_f w0 71 18).toInt) ∨ ((sf_f w 71 0).toInt = 2 ∧ (0 ≤ a_heading.toInt ∧ a_heading.toInt < (sf_f w0 71 1).toInt ∧ 0 ≤ a_land.toInt ∧ a_land.toInt ≤ 7 ∧ 1 ≤ a_units.toInt ∧ a_units.toInt ≤ 100000 ∧ 0 ≤ a_a.toInt ∧ a_a.toInt ≤ 10000 ∧ 0 ≤ a_from.toInt ∧ a_from.toInt ≤ a_to.toInt ∧ a_to.toInt ≤ 9999) ∧ ¬ ((sf_f w0 71 18).toInt < 8) ∧ (sf_f w 71 18).toInt = (sf_f w0 71 18).toInt))) → (sf_U (sf_a w0 86) (sf_a w 86) (sf_f w0 71 18).toInt (sf_f w 71 0).toInt a_heading) → (sf_U (sf_a w0 87) (sf_a w 87) (sf_f w0 71 18).toInt (sf_f w 71 0).toInt a_land) → (sf_U (sf_a w0 88) (sf_a w 88) (sf_f w0 71 18).toInt (sf_f w 71 0).toInt a_a) → (sf_U (sf_a w0 89) (sf_a w 89) (sf_f w0 71 18).toInt (sf_f w 71 0).toInt a_from) → (sf_U (sf_a w0 90) (sf_a w 90) (sf_f w0 71 18).toInt (sf_f w 71 0).toInt a_to) → rt (some (.inl (.int r))) w) : ks_M_quota [.inl (.ref 71), .inl (.int a_heading), .inl (.int a_land), .inl (.int a_units), .inl (.int a_a), .inl (.int a_from), .inl (.int a_to)] w0 rt xt := by
  have hs0 : sf_m sm_M_quota w0 w0 := sf_m0
  refine sf_sp (L := [(0, .inl (.ref 71)), (1, .inl (.int a_heading)), (2, .inl (.int a_land)), (3, .inl (.int a_units)), (4, .inl (.int a_a)), (5, .inl (.int a_from)), (6, .inl (.int a_to))]) rfl rfl ?_
  refine sf_aload rfl ?_
  refine sf_iload rfl ?_
  refine sf_call2 rfl rfl rfl ?_
  refine sf_rv hI0 rfl ?_
  refine sf_sp (L := [(0, .inl (.ref 71)), (1, .inl (.int a_heading))]) rfl rfl ?_
  refine sf_iload rfl ?_
  refine sf_f1_lt (fun h1 => ?_) (fun h1 => ?_)
  · refine sf_iconst sf_c0 (fun z2 ez2 => ?_)
    refine sf_zreturn (by omega) rfl rfl ?_
    refine sf_f1_eq (fun h3 => ?_) (fun h3 => absurd h3 (by omega))
    refine sf_iconst sf_c0 (fun z4 ez4 => ?_)
    refine sf_istore (L' := [(0, .inl (.ref 71)), (1, .inl (.int a_heading)), (2, .inl (.int a_land)), (3, .inl (.int a_units)), (4, .inl (.int a_a)), (5, .inl (.int a_from)), (6, .inl (.int a_to))]) rfl ?_
    refine sf_aload rfl ?_
    refine sf_iload rfl ?_
    refine sf_f1_eq (fun h5 => ?_) (fun h5 => absurd h5 (by omega))
    refine sf_iconst sf_c1 (fun z6 ez6 => ?_)
    refine sf_puti hI0 hs0 rfl rfl (sf_bd _) rfl rfl rfl (fun w7 Iw7 sw7 kw7 uw7 => ?_)
    have c8 := sf_mf kw7 (p := 71) (j := 18) rfl
    have c9 := sf_ma kw7 (p := 86) rfl
    have c10 := sf_ma kw7 (p := 87) rfl
    have c11 := sf_ma kw7 (p := 88) rfl
    have c12 := sf_ma kw7 (p := 89) rfl
    have c13 := sf_ma kw7 (p := 90) rfl
    clear kw7
    refine sf_aload rfl ?_
    refine sf_geti Iw7 rfl rfl (fun v14 lv14 uv14 ev14 => ?_)
    rw [uw7] at ev14
    refine sf_f1_le (fun h15 => absurd h15 (by omega)) (fun h15 => ?_)
    refine sf_iconst sf_c0 (fun z16 ez16 => ?_)
    refine sf_ireturn rfl rfl ?_
    exact hR _ _ Iw7 sw7 (by omega) (by omega) (by rw [uw7]; rw [c8]; first | (refine Or.inl ⟨by omega, ?_⟩; omega) | (refine Or.inr (Or.inl ⟨by omega, ?_⟩); omega) | (refine Or.inr (Or.inr ⟨by omega, ?_⟩); omega)) (by rw [uw7]; rw [c9]; first | exact Or.inl ⟨by omega, rfl⟩ | exact Or.inr ⟨by omega, u86⟩) (by rw [uw7]; rw [c10]; first | exact Or.inl ⟨by omega, rfl⟩ | exact Or.inr ⟨by omega, u87⟩) (by rw [uw7]; rw [c11]; first | exact Or.inl ⟨by omega, rfl⟩ | exact Or.inr ⟨by omega, u88⟩) (by rw [uw7]; rw [c12]; first | exact Or.inl ⟨by omega, rfl⟩ | exact Or.inr ⟨by omega, u89⟩) (by rw [uw7]; rw [c13]; first | exact Or.inl ⟨by omega, rfl⟩ | exact Or.inr ⟨by omega, u90⟩)
  · refine sf_iload rfl ?_
    refine sf_aload rfl ?_
    refine sf_geti hI0 rfl rfl (fun v17 lv17 uv17 ev17 => ?_)
    refine sf_f2_ge (fun h18 => ?_) (fun h18 => ?_)
    · refine sf_iconst sf_c0 (fun z19 ez19 => ?_)
      refine sf_zreturn (by omega) rfl rfl ?_
      refine sf_f1_eq (fun h20 => ?_) (fun h20 => absurd h20 (by omega))
      refine sf_iconst sf_c0 (fun z21 ez21 => ?_)
      refine sf_istore (L' := [(0, .inl (.ref 71)), (1, .inl (.int a_heading)), (2, .inl (.int a_land)), (3, .inl (.int a_units)), (4, .inl (.int a_a)), (5, .inl (.int a_from)), (6, .inl (.int a_to))]) rfl ?_
      refine sf_aload rfl ?_
      refine sf_iload rfl ?_
      refine sf_f1_eq (fun h22 => ?_) (fun h22 => absurd h22 (by omega))
      refine sf_iconst sf_c1 (fun z23 ez23 => ?_)
      refine sf_puti hI0 hs0 rfl rfl (sf_bd _) rfl rfl rfl (fun w24 Iw24 sw24 kw24 uw24 => ?_)
      have c25 := sf_mf kw24 (p := 71) (j := 18) rfl
      have c26 := sf_ma kw24 (p := 86) rfl
      have c27 := sf_ma kw24 (p := 87) rfl
      have c28 := sf_ma kw24 (p := 88) rfl
      have c29 := sf_ma kw24 (p := 89) rfl
      have c30 := sf_ma kw24 (p := 90) rfl
      clear kw24
      refine sf_aload rfl ?_
      refine sf_geti Iw24 rfl rfl (fun v31 lv31 uv31 ev31 => ?_)
      rw [uw24] at ev31
      refine sf_f1_le (fun h32 => absurd h32 (by omega)) (fun h32 => ?_)
      refine sf_iconst sf_c0 (fun z33 ez33 => ?_)
      refine sf_ireturn rfl rfl ?_
      exact hR _ _ Iw24 sw24 (by omega) (by omega) (by rw [uw24]; rw [c25]; first | (refine Or.inl ⟨by omega, ?_⟩; omega) | (refine Or.inr (Or.inl ⟨by omega, ?_⟩); omega) | (refine Or.inr (Or.inr ⟨by omega, ?_⟩); omega)) (by rw [uw24]; rw [c26]; first | exact Or.inl ⟨by omega, rfl⟩ | exact Or.inr ⟨by omega, u86⟩) (by rw [uw24]; rw [c27]; first | exact Or.inl ⟨by omega, rfl⟩ | exact Or.inr ⟨by omega, u87⟩) (by rw [uw24]; rw [c28]; first | exact Or.inl ⟨by omega, rfl⟩ | exact Or.inr ⟨by omega, u88⟩) (by rw [uw24]; rw [c29]; first | exact Or.inl ⟨by omega, rfl⟩ | exact Or.inr ⟨by omega, u89⟩) (by rw [uw24]; rw [c30]; first | exact Or.inl ⟨by omega, rfl⟩ | exact Or.inr ⟨by omega, u90⟩)
    · refine sf_iconst sf_c1 (fun z34 ez34 => ?_)
      refine sf_zreturn (by omega) rfl rfl ?_
      refine sf_f1_eq (fun h35 => absurd h35 (by omega)) (fun h35 => ?_)
      refine sf_iload rfl ?_
      refine sf_iconst sf_c0 (fun z36 ez36 => ?_)
      refine sf_iconst sf_c7 (fun z37 ez37 => ?_)
      refine sf_call3 rfl rfl rfl ?_
      refine sf_sp (L := [(0, .inl (.int a_land)), (1, .inl (.int z36)), (2, .inl (.int z37))]) rfl rfl ?_
      refine sf_iload rfl ?_
      refine sf_iload rfl ?_
      refine sf_f2_lt (fun h38 => ?_) (fun h38 => ?_)
      · refine sf_iconst sf_c0 (fun z39 ez39 => ?_)
        refine sf_zreturn (by omega) rfl rfl ?_
        refine sf_f1_eq (fun h40 => ?_) (fun h40 => absurd h40 (by omega))
        refine sf_iconst sf_c0 (fun z41 ez41 => ?_)
        refine sf_istore (L' := [(0, .inl (.ref 71)), (1, .inl (.int a_heading)), (2, .inl (.int a_land)), (3, .inl (.int a_units)), (4, .inl (.int a_a)), (5, .inl (.int a_from)), (6, .inl (.int a_to))]) rfl ?_
        refine sf_aload rfl ?_
        refine sf_iload rfl ?_
        refine sf_f1_eq (fun h42 => ?_) (fun h42 => absurd h42 (by omega))
        refine sf_iconst sf_c1 (fun z43 ez43 => ?_)
        refine sf_puti hI0 hs0 rfl rfl (sf_bd _) rfl rfl rfl (fun w44 Iw44 sw44 kw44 uw44 => ?_)
        have c45 := sf_mf kw44 (p := 71) (j := 18) rfl
        have c46 := sf_ma kw44 (p := 86) rfl
        have c47 := sf_ma kw44 (p := 87) rfl
        have c48 := sf_ma kw44 (p := 88) rfl
        have c49 := sf_ma kw44 (p := 89) rfl
        have c50 := sf_ma kw44 (p := 90) rfl
        clear kw44
        refine sf_aload rfl ?_
        refine sf_geti Iw44 rfl rfl (fun v51 lv51 uv51 ev51 => ?_)
        rw [uw44] at ev51
        refine sf_f1_le (fun h52 => absurd h52 (by omega)) (fun h52 => ?_)
        refine sf_iconst sf_c0 (fun z53 ez53 => ?_)
        refine sf_ireturn rfl rfl ?_
        exact hR _ _ Iw44 sw44 (by omega) (by omega) (by rw [uw44]; rw [c45]; first | (refine Or.inl ⟨by omega, ?_⟩; omega) | (refine Or.inr (Or.inl ⟨by omega, ?_⟩); omega) | (refine Or.inr (Or.inr ⟨by omega, ?_⟩); omega)) (by rw [uw44]; rw [c46]; first | exact Or.inl ⟨by omega, rfl⟩ | exact Or.inr ⟨by omega, u86⟩) (by rw [uw44]; rw [c47]; first | exact Or.inl ⟨by omega, rfl⟩ | exact Or.inr ⟨by omega, u87⟩) (by rw [uw44]; rw [c48]; first | exact Or.inl ⟨by omega, rfl⟩ | exact Or.inr ⟨by omega, u88⟩) (by rw [uw44]; rw [c49]; first | exact Or.inl ⟨by omega, rfl⟩ | exact Or.inr ⟨by omega, u89⟩) (by rw [uw44]; rw [c50]; first | exact Or.inl ⟨by omega, rfl⟩ | exact Or.inr ⟨by omega, u90⟩)
      · refine sf_iload rfl ?_
        refine sf_iload rfl ?_
        refine sf_f2_gt (fun h54 => ?_) (fun h54 => ?_)
        · refine sf_iconst sf_c0 (fun z55 ez55 => ?_)
          refine sf_zreturn (by omega) rfl rfl ?_
          refine sf_f1_eq (fun h56 => ?_) (fun h56 => absurd h56 (by omega))
          refine sf_iconst sf_c0 (fun z57 ez57 => ?_)
          refine sf_istore (L' := [(0, .inl (.ref 71)), (1, .inl (.int a_heading)), (2, .inl (.int a_land)), (3, .inl (.int a_units)), (4, .inl (.int a_a)), (5, .inl (.int a_from)), (6, .inl (.int a_to))]) rfl ?_
          refine sf_aload rfl ?_
          refine sf_iload rfl ?_
          refine sf_f1_eq (fun h58 => ?_) (fun h58 => absurd h58 (by omega))
          refine sf_iconst sf_c1 (fun z59 ez59 => ?_)
          refine sf_puti hI0 hs0 rfl rfl (sf_bd _) rfl rfl rfl (fun w60 Iw60 sw60 kw60 uw60 => ?_)
          have c61 := sf_mf kw60 (p := 71) (j := 18) rfl
          have c62 := sf_ma kw60 (p := 86) rfl
          have c63 := sf_ma kw60 (p := 87) rfl
          have c64 := sf_ma kw60 (p := 88) rfl
          have c65 := sf_ma kw60 (p := 89) rfl
          have c66 := sf_ma kw60 (p := 90) rfl
          clear kw60
          refine sf_aload rfl ?_
          refine sf_geti Iw60 rfl rfl (fun v67 lv67 uv67 ev67 => ?_)
          rw [uw60] at ev67
          refine sf_f1_le (fun h68 => absurd h68 (by omega)) (fun h68 => ?_)
          refine sf_iconst sf_c0 (fun z69 ez69 => ?_)
          refine sf_ireturn rfl rfl ?_
          exact hR _ _ Iw60 sw60 (by omega) (by omega) (by rw [uw60]; rw [c61]; first | (refine Or.inl ⟨by omega, ?_⟩; omega) | (refine Or.inr (Or.inl ⟨by omega, ?_⟩); omega) | (refine Or.inr (Or.inr ⟨by omega, ?_⟩); omega)) (by rw [uw60]; rw [c62]; first | exact Or.inl ⟨by omega, rfl⟩ | exact Or.inr ⟨by omega, u86⟩) (by rw [uw60]; rw [c63]; first | exact Or.inl ⟨by omega, rfl⟩ | exact Or.inr ⟨by omega, u87⟩) (by rw [uw60]; rw [c64]; first | exact Or.inl ⟨by omega, rfl⟩ | exact Or.inr ⟨by omega, u88⟩) (by rw [uw60]; rw [c65]; first | exact Or.inl ⟨by omega, rfl⟩ | exact Or.inr ⟨by omega, u89⟩) (by rw [uw60]; rw [c66]; first | exact Or.inl ⟨by omega, rfl⟩ | exact Or.inr ⟨by omega, u90⟩)
        · refine sf_iconst sf_c1 (fun z70 ez70 => ?_)
          refine sf_zreturn (by omega) rfl rfl ?_
          refine sf_f1_eq (fun h71 => absurd h71 (by omega)) (fun h71 => ?_)
          refine sf_iload rfl ?_
          refine sf_iconst sf_c1 (fun z72 ez72 => ?_)
          refine sf_iconst sf_cl100000 (fun z73 ez73 => ?_)
          refine sf_call3 rfl rfl rfl ?_
          refine sf_sp (L := [(0, .inl (.int a_units)), (1, .inl (.int z72)), (2, .inl (.int z73))]) rfl rfl ?_
          refine sf_iload rfl ?_
          refine sf_iload rfl ?_
          refine sf_f2_lt (fun h74 => ?_) (fun h74 => ?_)
          · refine sf_iconst sf_c0 (fun z75 ez75 => ?_)
            refine sf_zreturn (by omega) rfl rfl ?_
            refine sf_f1_eq (fun h76 => ?_) (fun h76 => absurd h76 (by omega))
            refine sf_iconst sf_c0 (fun z77 ez77 => ?_)
            refine sf_istore (L' := [(0, .inl (.ref 71)), (1, .inl (.int a_heading)), (2, .inl (.int a_land)), (3, .inl (.int a_units)), (4, .inl (.int a_a)), (5, .inl (.int a_from)), (6, .inl (.int a_to))]) rfl ?_
            refine sf_aload rfl ?_
            refine sf_iload rfl ?_
            refine sf_f1_eq (fun h78 => ?_) (fun h78 => absurd h78 (by omega))
            refine sf_iconst sf_c1 (fun z79 ez79 => ?_)
            refine sf_puti hI0 hs0 rfl rfl (sf_bd _) rfl rfl rfl (fun w80 Iw80 sw80 kw80 uw80 => ?_)
            have c81 := sf_mf kw80 (p := 71) (j := 18) rfl
            have c82 := sf_ma kw80 (p := 86) rfl
            have c83 := sf_ma kw80 (p := 87) rfl
            have c84 := sf_ma kw80 (p := 88) rfl
            have c85 := sf_ma kw80 (p := 89) rfl
            have c86 := sf_ma kw80 (p := 90) rfl
            clear kw80
            refine sf_aload rfl ?_
            refine sf_geti Iw80 rfl rfl (fun v87 lv87 uv87 ev87 => ?_)
            rw [uw80] at ev87
            refine sf_f1_le (fun h88 => absurd h88 (by omega)) (fun h88 => ?_)
            refine sf_iconst sf_c0 (fun z89 ez89 => ?_)
            refine sf_ireturn rfl rfl ?_
            exact hR _ _ Iw80 sw80 (by omega) (by omega) (by rw [uw80]; rw [c81]; first | (refine Or.inl ⟨by omega, ?_⟩; omega) | (refine Or.inr (Or.inl ⟨by omega, ?_⟩); omega) | (refine Or.inr (Or.inr ⟨by omega, ?_⟩); omega)) (by rw [uw80]; rw [c82]; first | exact Or.inl ⟨by omega, rfl⟩ | exact Or.inr ⟨by omega, u86⟩) (by rw [uw80]; rw [c83]; first | exact Or.inl ⟨by omega, rfl⟩ | exact Or.inr ⟨by omega, u87⟩) (by rw [uw80]; rw [c84]; first | exact Or.inl ⟨by omega, rfl⟩ | exact Or.inr ⟨by omega, u88⟩) (by rw [uw80]; rw [c85]; first | exact Or.inl ⟨by omega, rfl⟩ | exact Or.inr ⟨by omega, u89⟩) (by rw [uw80]; rw [c86]; first | exact Or.inl ⟨by omega, rfl⟩ | exact Or.inr ⟨by omega, u90⟩)
          · refine sf_iload rfl ?_
            refine sf_iload rfl ?_
            refine sf_f2_gt (fun h90 => ?_) (fun h90 => ?_)
            · refine sf_iconst sf_c0 (fun z91 ez91 => ?_)
              refine sf_zreturn (by omega) rfl rfl ?_
              refine sf_f1_eq (fun h92 => ?_) (fun h92 => absurd h92 (by omega))
              refine sf_iconst sf_c0 (fun z93 ez93 => ?_)
              refine sf_istore (L' := [(0, .inl (.ref 71)), (1, .inl (.int a_heading)), (2, .inl (.int a_land)), (3, .inl (.int a_units)), (4, .inl (.int a_a)), (5, .inl (.int a_from)), (6, .inl (.int a_to))]) rfl ?_
              refine sf_aload rfl ?_
              refine sf_iload rfl ?_
              refine sf_f1_eq (fun h94 => ?_) (fun h94 => absurd h94 (by omega))
              refine sf_iconst sf_c1 (fun z95 ez95 => ?_)
              refine sf_puti hI0 hs0 rfl rfl (sf_bd _) rfl rfl rfl (fun w96 Iw96 sw96 kw96 uw96 => ?_)
              have c97 := sf_mf kw96 (p := 71) (j := 18) rfl
              have c98 := sf_ma kw96 (p := 86) rfl
              have c99 := sf_ma kw96 (p := 87) rfl
              have c100 := sf_ma kw96 (p := 88) rfl
              have c101 := sf_ma kw96 (p := 89) rfl
              have c102 := sf_ma kw96 (p := 90) rfl
              clear kw96
              refine sf_aload rfl ?_
              refine sf_geti Iw96 rfl rfl (fun v103 lv103 uv103 ev103 => ?_)
              rw [uw96] at ev103
              refine sf_f1_le (fun h104 => absurd h104 (by omega)) (fun h104 => ?_)
              refine sf_iconst sf_c0 (fun z105 ez105 => ?_)
              refine sf_ireturn rfl rfl ?_
              exact hR _ _ Iw96 sw96 (by omega) (by omega) (by rw [uw96]; rw [c97]; first | (refine Or.inl ⟨by omega, ?_⟩; omega) | (refine Or.inr (Or.inl ⟨by omega, ?_⟩); omega) | (refine Or.inr (Or.inr ⟨by omega, ?_⟩); omega)) (by rw [uw96]; rw [c98]; first | exact Or.inl ⟨by omega, rfl⟩ | exact Or.inr ⟨by omega, u86⟩) (by rw [uw96]; rw [c99]; first | exact Or.inl ⟨by omega, rfl⟩ | exact Or.inr ⟨by omega, u87⟩) (by rw [uw96]; rw [c100]; first | exact Or.inl ⟨by omega, rfl⟩ | exact Or.inr ⟨by omega, u88⟩) (by rw [uw96]; rw [c101]; first | exact Or.inl ⟨by omega, rfl⟩ | exact Or.inr ⟨by omega, u89⟩) (by rw [uw96]; rw [c102]; first | exact Or.inl ⟨by omega, rfl⟩ | exact Or.inr ⟨by omega, u90⟩)
            · refine sf_iconst sf_c1 (fun z106 ez106 => ?_)
              refine sf_zreturn (by omega) rfl rfl ?_
              refine sf_f1_eq (fun h107 => absurd h107 (by omega)) (fun h107 => ?_)
              refine sf_iload rfl ?_
              refine sf_iconst sf_c0 (fun z108 ez108 => ?_)
              refine sf_iconst sf_c10000 (fun z109 ez109 => ?_)
              refine sf_call3 rfl rfl rfl ?_
              refine sf_sp (L := [(0, .inl (.int a_a)), (1, .inl (.int z108)), (2, .inl (.int z109))]) rfl rfl ?_
              refine sf_iload rfl ?_
              refine sf_iload rfl ?_
              refine sf_f2_lt (fun h110 => ?_) (fun h110 => ?_)
              · refine sf_iconst sf_c0 (fun z111 ez111 => ?_)
                refine sf_zreturn (by omega) rfl rfl ?_
                refine sf_f1_eq (fun h112 => ?_) (fun h112 => absurd h112 (by omega))
                refine sf_iconst sf_c0 (fun z113 ez113 => ?_)
                refine sf_istore (L' := [(0, .inl (.ref 71)), (1, .inl (.int a_heading)), (2, .inl (.int a_land)), (3, .inl (.int a_units)), (4, .inl (.int a_a)), (5, .inl (.int a_from)), (6, .inl (.int a_to))]) rfl ?_
                refine sf_aload rfl ?_
                refine sf_iload rfl ?_
                refine sf_f1_eq (fun h114 => ?_) (fun h114 => absurd h114 (by omega))
                refine sf_iconst sf_c1 (fun z115 ez115 => ?_)
                refine sf_puti hI0 hs0 rfl rfl (sf_bd _) rfl rfl rfl (fun w116 Iw116 sw116 kw116 uw116 => ?_)
                have c117 := sf_mf kw116 (p := 71) (j := 18) rfl
                have c118 := sf_ma kw116 (p := 86) rfl
                have c119 := sf_ma kw116 (p := 87) rfl
                have c120 := sf_ma kw116 (p := 88) rfl
                have c121 := sf_ma kw116 (p := 89) rfl
                have c122 := sf_ma kw116 (p := 90) rfl
                clear kw116
                refine sf_aload rfl ?_
                refine sf_geti Iw116 rfl rfl (fun v123 lv123 uv123 ev123 => ?_)
                rw [uw116] at ev123
                refine sf_f1_le (fun h124 => absurd h124 (by omega)) (fun h124 => ?_)
                refine sf_iconst sf_c0 (fun z125 ez125 => ?_)
                refine sf_ireturn rfl rfl ?_
                exact hR _ _ Iw116 sw116 (by omega) (by omega) (by rw [uw116]; rw [c117]; first | (refine Or.inl ⟨by omega, ?_⟩; omega) | (refine Or.inr (Or.inl ⟨by omega, ?_⟩); omega) | (refine Or.inr (Or.inr ⟨by omega, ?_⟩); omega)) (by rw [uw116]; rw [c118]; first | exact Or.inl ⟨by omega, rfl⟩ | exact Or.inr ⟨by omega, u86⟩) (by rw [uw116]; rw [c119]; first | exact Or.inl ⟨by omega, rfl⟩ | exact Or.inr ⟨by omega, u87⟩) (by rw [uw116]; rw [c120]; first | exact Or.inl ⟨by omega, rfl⟩ | exact Or.inr ⟨by omega, u88⟩) (by rw [uw116]; rw [c121]; first | exact Or.inl ⟨by omega, rfl⟩ | exact Or.inr ⟨by omega, u89⟩) (by rw [uw116]; rw [c122]; first | exact Or.inl ⟨by omega, rfl⟩ | exact Or.inr ⟨by omega, u90⟩)
              · refine sf_iload rfl ?_
                refine sf_iload rfl ?_
                refine sf_f2_gt (fun h126 => ?_) (fun h126 => ?_)
                · refine sf_iconst sf_c0 (fun z127 ez127 => ?_)
                  refine sf_zreturn (by omega) rfl rfl ?_
                  refine sf_f1_eq (fun h128 => ?_) (fun h128 => absurd h128 (by omega))
                  refine sf_iconst sf_c0 (fun z129 ez129 => ?_)
                  refine sf_istore (L' := [(0, .inl (.ref 71)), (1, .inl (.int a_heading)), (2, .inl (.int a_land)), (3, .inl (.int a_units)), (4, .inl (.int a_a)), (5, .inl (.int a_from)), (6, .inl (.int a_to))]) rfl ?_
                  refine sf_aload rfl ?_
                  refine sf_iload rfl ?_
                  refine sf_f1_eq (fun h130 => ?_) (fun h130 => absurd h130 (by omega))
                  refine sf_iconst sf_c1 (fun z131 ez131 => ?_)
                  refine sf_puti hI0 hs0 rfl rfl (sf_bd _) rfl rfl rfl (fun w132 Iw132 sw132 kw132 uw132 => ?_)
                  have c133 := sf_mf kw132 (p := 71) (j := 18) rfl
                  have c134 := sf_ma kw132 (p := 86) rfl
                  have c135 := sf_ma kw132 (p := 87) rfl
                  have c136 := sf_ma kw132 (p := 88) rfl
                  have c137 := sf_ma kw132 (p := 89) rfl
                  have c138 := sf_ma kw132 (p := 90) rfl
                  clear kw132
                  refine sf_aload rfl ?_
                  refine sf_geti Iw132 rfl rfl (fun v139 lv139 uv139 ev139 => ?_)
                  rw [uw132] at ev139
                  refine sf_f1_le (fun h140 => absurd h140 (by omega)) (fun h140 => ?_)
                  refine sf_iconst sf_c0 (fun z141 ez141 => ?_)
                  refine sf_ireturn rfl rfl ?_
                  exact hR _ _ Iw132 sw132 (by omega) (by omega) (by rw [uw132]; rw [c133]; first | (refine Or.inl ⟨by omega, ?_⟩; omega) | (refine Or.inr (Or.inl ⟨by omega, ?_⟩); omega) | (refine Or.inr (Or.inr ⟨by omega, ?_⟩); omega)) (by rw [uw132]; rw [c134]; first | exact Or.inl ⟨by omega, rfl⟩ | exact Or.inr ⟨by omega, u86⟩) (by rw [uw132]; rw [c135]; first | exact Or.inl ⟨by omega, rfl⟩ | exact Or.inr ⟨by omega, u87⟩) (by rw [uw132]; rw [c136]; first | exact Or.inl ⟨by omega, rfl⟩ | exact Or.inr ⟨by omega, u88⟩) (by rw [uw132]; rw [c137]; first | exact Or.inl ⟨by omega, rfl⟩ | exact Or.inr ⟨by omega, u89⟩) (by rw [uw132]; rw [c138]; first | exact Or.inl ⟨by omega, rfl⟩ | exact Or.inr ⟨by omega, u90⟩)
                · refine sf_iconst sf_c1 (fun z142 ez142 => ?_)
                  refine sf_zreturn (by omega) rfl rfl ?_
                  refine sf_f1_eq (fun h143 => absurd h143 (by omega)) (fun h143 => ?_)
                  refine sf_iconst sf_c1 (fun z144 ez144 => ?_)
                  refine sf_istore (L' := [(0, .inl (.ref 71)), (1, .inl (.int a_heading)), (2, .inl (.int a_land)), (3, .inl (.int a_units)), (4, .inl (.int a_a)), (5, .inl (.int a_from)), (6, .inl (.int a_to))]) rfl ?_
                  refine sf_aload rfl ?_
                  refine sf_iload rfl ?_
                  refine sf_f1_eq (fun h145 => absurd h145 (by omega)) (fun h145 => ?_)
                  refine sf_iload rfl ?_
                  refine sf_f1_lt (fun h146 => ?_) (fun h146 => ?_)
                  · refine sf_iconst sf_c1 (fun z147 ez147 => ?_)
                    refine sf_puti hI0 hs0 rfl rfl (sf_bd _) rfl rfl rfl (fun w148 Iw148 sw148 kw148 uw148 => ?_)
                    have c149 := sf_mf kw148 (p := 71) (j := 18) rfl
                    have c150 := sf_ma kw148 (p := 86) rfl
                    have c151 := sf_ma kw148 (p := 87) rfl
                    have c152 := sf_ma kw148 (p := 88) rfl
                    have c153 := sf_ma kw148 (p := 89) rfl
                    have c154 := sf_ma kw148 (p := 90) rfl
                    clear kw148
                    refine sf_aload rfl ?_
                    refine sf_geti Iw148 rfl rfl (fun v155 lv155 uv155 ev155 => ?_)
                    rw [uw148] at ev155
                    refine sf_f1_le (fun h156 => absurd h156 (by omega)) (fun h156 => ?_)
                    refine sf_iconst sf_c0 (fun z157 ez157 => ?_)
                    refine sf_ireturn rfl rfl ?_
                    exact hR _ _ Iw148 sw148 (by omega) (by omega) (by rw [uw148]; rw [c149]; first | (refine Or.inl ⟨by omega, ?_⟩; omega) | (refine Or.inr (Or.inl ⟨by omega, ?_⟩); omega) | (refine Or.inr (Or.inr ⟨by omega, ?_⟩); omega)) (by rw [uw148]; rw [c150]; first | exact Or.inl ⟨by omega, rfl⟩ | exact Or.inr ⟨by omega, u86⟩) (by rw [uw148]; rw [c151]; first | exact Or.inl ⟨by omega, rfl⟩ | exact Or.inr ⟨by omega, u87⟩) (by rw [uw148]; rw [c152]; first | exact Or.inl ⟨by omega, rfl⟩ | exact Or.inr ⟨by omega, u88⟩) (by rw [uw148]; rw [c153]; first | exact Or.inl ⟨by omega, rfl⟩ | exact Or.inr ⟨by omega, u89⟩) (by rw [uw148]; rw [c154]; first | exact Or.inl ⟨by omega, rfl⟩ | exact Or.inr ⟨by omega, u90⟩)
                  · refine sf_iload rfl ?_
                    refine sf_iload rfl ?_
                    refine sf_f2_gt (fun h158 => ?_) (fun h158 => ?_)
                    · refine sf_iconst sf_c1 (fun z159 ez159 => ?_)
                      refine sf_puti hI0 hs0 rfl rfl (sf_bd _) rfl rfl rfl (fun w160 Iw160 sw160 kw160 uw160 => ?_)
                      have c161 := sf_mf kw160 (p := 71) (j := 18) rfl
                      have c162 := sf_ma kw160 (p := 86) rfl
                      have c163 := sf_ma kw160 (p := 87) rfl
                      have c164 := sf_ma kw160 (p := 88) rfl
                      have c165 := sf_ma kw160 (p := 89) rfl
                      have c166 := sf_ma kw160 (p := 90) rfl
                      clear kw160
                      refine sf_aload rfl ?_
                      refine sf_geti Iw160 rfl rfl (fun v167 lv167 uv167 ev167 => ?_)
                      rw [uw160] at ev167
                      refine sf_f1_le (fun h168 => absurd h168 (by omega)) (fun h168 => ?_)
                      refine sf_iconst sf_c0 (fun z169 ez169 => ?_)
                      refine sf_ireturn rfl rfl ?_
                      exact hR _ _ Iw160 sw160 (by omega) (by omega) (by rw [uw160]; rw [c161]; first | (refine Or.inl ⟨by omega, ?_⟩; omega) | (refine Or.inr (Or.inl ⟨by omega, ?_⟩); omega) | (refine Or.inr (Or.inr ⟨by omega, ?_⟩); omega)) (by rw [uw160]; rw [c162]; first | exact Or.inl ⟨by omega, rfl⟩ | exact Or.inr ⟨by omega, u86⟩) (by rw [uw160]; rw [c163]; first | exact Or.inl ⟨by omega, rfl⟩ | exact Or.inr ⟨by omega, u87⟩) (by rw [uw160]; rw [c164]; first | exact Or.inl ⟨by omega, rfl⟩ | exact Or.inr ⟨by omega, u88⟩) (by rw [uw160]; rw [c165]; first | exact Or.inl ⟨by omega, rfl⟩ | exact Or.inr ⟨by omega, u89⟩) (by rw [uw160]; rw [c166]; first | exact Or.inl ⟨by omega, rfl⟩ | exact Or.inr ⟨by omega, u90⟩)
                    · refine sf_iload rfl ?_
                      refine sf_iconst sf_c9999 (fun z170 ez170 => ?_)
                      refine sf_f2_le (fun h171 => ?_) (fun h171 => ?_)
                      · refine sf_aload rfl ?_
                        refine sf_geti hI0 rfl rfl (fun v172 lv172 uv172 ev172 => ?_)
                        refine sf_iconst sf_c8 (fun z173 ez173 => ?_)
                        refine sf_f2_eq (fun h174 => ?_) (fun h174 => ?_)
                        · refine sf_iconst sf_c2 (fun z175 ez175 => ?_)
                          refine sf_puti hI0 hs0 rfl rfl (sf_bd _) rfl rfl rfl (fun w176 Iw176 sw176 kw176 uw176 => ?_)
                          have c177 := sf_mf kw176 (p := 71) (j := 18) rfl
                          have c178 := sf_ma kw176 (p := 86) rfl
                          have c179 := sf_ma kw176 (p := 87) rfl
                          have c180 := sf_ma kw176 (p := 88) rfl
                          have c181 := sf_ma kw176 (p := 89) rfl
                          have c182 := sf_ma kw176 (p := 90) rfl
                          clear kw176
                          refine sf_aload rfl ?_
                          refine sf_geti Iw176 rfl rfl (fun v183 lv183 uv183 ev183 => ?_)
                          rw [uw176] at ev183
                          refine sf_f1_le (fun h184 => absurd h184 (by omega)) (fun h184 => ?_)
                          refine sf_iconst sf_c0 (fun z185 ez185 => ?_)
                          refine sf_ireturn rfl rfl ?_
                          exact hR _ _ Iw176 sw176 (by omega) (by omega) (by rw [uw176]; rw [c177]; first | (refine Or.inl ⟨by omega, ?_⟩; omega) | (refine Or.inr (Or.inl ⟨by omega, ?_⟩); omega) | (refine Or.inr (Or.inr ⟨by omega, ?_⟩); omega)) (by rw [uw176]; rw [c178]; first | exact Or.inl ⟨by omega, rfl⟩ | exact Or.inr ⟨by omega, u86⟩) (by rw [uw176]; rw [c179]; first | exact Or.inl ⟨by omega, rfl⟩ | exact Or.inr ⟨by omega, u87⟩) (by rw [uw176]; rw [c180]; first | exact Or.inl ⟨by omega, rfl⟩ | exact Or.inr ⟨by omega, u88⟩) (by rw [uw176]; rw [c181]; first | exact Or.inl ⟨by omega, rfl⟩ | exact Or.inr ⟨by omega, u89⟩) (by rw [uw176]; rw [c182]; first | exact Or.inl ⟨by omega, rfl⟩ | exact Or.inr ⟨by omega, u90⟩)
                        · refine sf_iconst sf_c0 (fun z186 ez186 => ?_)
                          refine sf_puti hI0 hs0 rfl rfl (sf_bd _) rfl rfl rfl (fun w187 Iw187 sw187 kw187 uw187 => ?_)
                          have c188 := sf_mf kw187 (p := 71) (j := 18) rfl
                          have c189 := sf_ma kw187 (p := 86) rfl
                          have c190 := sf_ma kw187 (p := 87) rfl
                          have c191 := sf_ma kw187 (p := 88) rfl
                          have c192 := sf_ma kw187 (p := 89) rfl
                          have c193 := sf_ma kw187 (p := 90) rfl
                          clear kw187
                          refine sf_aload rfl ?_
                          refine sf_geti Iw187 rfl rfl (fun v194 lv194 uv194 ev194 => ?_)
                          rw [uw187] at ev194
                          refine sf_f1_le (fun h195 => ?_) (fun h195 => absurd h195 (by omega))
                          refine sf_aload rfl ?_
                          refine sf_getr Iw187 rfl rfl ?_
                          refine sf_aload rfl ?_
                          refine sf_geti Iw187 rfl rfl (fun v196 lv196 uv196 ev196 => ?_)
                          rw [c188] at ev196
                          refine sf_iload rfl ?_
                          refine sf_iast Iw187 sw187 rfl (by omega) (sf_bd _) rfl rfl (fun w197 Iw197 sw197 kw197 uw197 => ?_)
                          have c198 := sf_mf kw197 (p := 71) (j := 0) rfl
                          have c199 := sf_mf kw197 (p := 71) (j := 18) rfl
                          have c200 := sf_ma kw197 (p := 87) rfl
                          have c201 := sf_ma kw197 (p := 88) rfl
                          have c202 := sf_ma kw197 (p := 89) rfl
                          have c203 := sf_ma kw197 (p := 90) rfl
                          clear kw197
                          have u86 := uw197
                          rw [show v196.toInt = (sf_f w0 71 18).toInt by omega] at u86
                          rw [c189] at u86
                          refine sf_aload rfl ?_
                          refine sf_getr Iw197 rfl rfl ?_
                          refine sf_aload rfl ?_
                          refine sf_geti Iw197 rfl rfl (fun v204 lv204 uv204 ev204 => ?_)
                          rw [c199, c188] at ev204
                          refine sf_iload rfl ?_
                          refine sf_iast Iw197 sw197 rfl (by omega) (sf_bd _) rfl rfl (fun w205 Iw205 sw205 kw205 uw205 => ?_)
                          have c206 := sf_mf kw205 (p := 71) (j := 0) rfl
                          have c207 := sf_mf kw205 (p := 71) (j := 18) rfl
                          have c208 := sf_ma kw205 (p := 86) rfl
                          have c209 := sf_ma kw205 (p := 88) rfl
                          have c210 := sf_ma kw205 (p := 89) rfl
                          have c211 := sf_ma kw205 (p := 90) rfl
                          clear kw205
                          have u87 := uw205
                          rw [show v204.toInt = (sf_f w0 71 18).toInt by omega] at u87
                          rw [c200, c190] at u87
                          refine sf_aload rfl ?_
                          refine sf_getr Iw205 rfl rfl ?_
                          refine sf_aload rfl ?_
                          refine sf_geti Iw205 rfl rfl (fun v212 lv212 uv212 ev212 => ?_)
                          rw [c207, c199, c188] at ev212
                          refine sf_iload rfl ?_
                          refine sf_iast Iw205 sw205 rfl (by omega) (sf_bd _) rfl rfl (fun w213 Iw213 sw213 kw213 uw213 => ?_)
                          have c214 := sf_mf kw213 (p := 71) (j := 0) rfl
                          have c215 := sf_mf kw213 (p := 71) (j := 18) rfl
                          have c216 := sf_ma kw213 (p := 86) rfl
                          have c217 := sf_ma kw213 (p := 87) rfl
                          have c218 := sf_ma kw213 (p := 89) rfl
                          have c219 := sf_ma kw213 (p := 90) rfl
                          clear kw213
                          have u88 := uw213
                          rw [show v212.toInt = (sf_f w0 71 18).toInt by omega] at u88
                          rw [c209, c201, c191] at u88
                          refine sf_aload rfl ?_
                          refine sf_getr Iw213 rfl rfl ?_
                          refine sf_aload rfl ?_
                          refine sf_geti Iw213 rfl rfl (fun v220 lv220 uv220 ev220 => ?_)
                          rw [c215, c207, c199, c188] at ev220
                          refine sf_iload rfl ?_
                          refine sf_iast Iw213 sw213 rfl (by omega) (sf_bd _) rfl rfl (fun w221 Iw221 sw221 kw221 uw221 => ?_)
                          have c222 := sf_mf kw221 (p := 71) (j := 0) rfl
                          have c223 := sf_mf kw221 (p := 71) (j := 18) rfl
                          have c224 := sf_ma kw221 (p := 86) rfl
                          have c225 := sf_ma kw221 (p := 87) rfl
                          have c226 := sf_ma kw221 (p := 88) rfl
                          have c227 := sf_ma kw221 (p := 90) rfl
                          clear kw221
                          have u89 := uw221
                          rw [show v220.toInt = (sf_f w0 71 18).toInt by omega] at u89
                          rw [c218, c210, c202, c192] at u89
                          refine sf_aload rfl ?_
                          refine sf_getr Iw221 rfl rfl ?_
                          refine sf_aload rfl ?_
                          refine sf_geti Iw221 rfl rfl (fun v228 lv228 uv228 ev228 => ?_)
                          rw [c223, c215, c207, c199, c188] at ev228
                          refine sf_iload rfl ?_
                          refine sf_iast Iw221 sw221 rfl (by omega) (sf_bd _) rfl rfl (fun w229 Iw229 sw229 kw229 uw229 => ?_)
                          have c230 := sf_mf kw229 (p := 71) (j := 0) rfl
                          have c231 := sf_mf kw229 (p := 71) (j := 18) rfl
                          have c232 := sf_ma kw229 (p := 86) rfl
                          have c233 := sf_ma kw229 (p := 87) rfl
                          have c234 := sf_ma kw229 (p := 88) rfl
                          have c235 := sf_ma kw229 (p := 89) rfl
                          clear kw229
                          have u90 := uw229
                          rw [show v228.toInt = (sf_f w0 71 18).toInt by omega] at u90
                          rw [c227, c219, c211, c203, c193] at u90
                          refine sf_aload rfl ?_
                          refine sf_getr Iw229 rfl rfl ?_
                          refine sf_aload rfl ?_
                          refine sf_geti Iw229 rfl rfl (fun v236 lv236 uv236 ev236 => ?_)
                          rw [c231, c223, c215, c207, c199, c188] at ev236
                          refine sf_iload rfl ?_
                          refine sf_iast Iw229 sw229 rfl (by omega) (sf_bd _) rfl rfl (fun w237 Iw237 sw237 kw237 uw237 => ?_)
                          have c238 := sf_mf kw237 (p := 71) (j := 0) rfl
                          have c239 := sf_mf kw237 (p := 71) (j := 18) rfl
                          have c240 := sf_ma kw237 (p := 86) rfl
                          have c241 := sf_ma kw237 (p := 87) rfl
                          have c242 := sf_ma kw237 (p := 88) rfl
                          have c243 := sf_ma kw237 (p := 89) rfl
                          have c244 := sf_ma kw237 (p := 90) rfl
                          clear kw237 uw237
                          refine sf_aload rfl ?_
                          refine sf_dup rfl ?_
                          refine sf_geti Iw237 rfl rfl (fun v245 lv245 uv245 ev245 => ?_)
                          rw [c239, c231, c223, c215, c207, c199, c188] at ev245
                          refine sf_iconst sf_c1 (fun z246 ez246 => ?_)
                          refine sf_iadd (by omega) (fun v247 ev247 => ?_)
                          refine sf_puti Iw237 sw237 rfl rfl (by omega) rfl rfl rfl (fun w248 Iw248 sw248 kw248 uw248 => ?_)
                          have c249 := sf_mf kw248 (p := 71) (j := 0) rfl
                          have c250 := sf_ma kw248 (p := 86) rfl
                          have c251 := sf_ma kw248 (p := 87) rfl
                          have c252 := sf_ma kw248 (p := 88) rfl
                          have c253 := sf_ma kw248 (p := 89) rfl
                          have c254 := sf_ma kw248 (p := 90) rfl
                          clear kw248
                          refine sf_aload rfl ?_
                          refine sf_geti Iw248 rfl rfl (fun v255 lv255 uv255 ev255 => ?_)
                          rw [uw248] at ev255
                          refine sf_iconst sf_c1 (fun z256 ez256 => ?_)
                          refine sf_isub (by omega) (fun v257 ev257 => ?_)
                          refine sf_ireturn rfl rfl ?_
                          exact hR _ _ Iw248 sw248 (by omega) (by omega) (by rw [c249, c238, c230, c222, c214, c206, c198, uw187]; rw [uw248]; first | (refine Or.inl ⟨by omega, ?_⟩; omega) | (refine Or.inr (Or.inl ⟨by omega, ?_⟩); omega) | (refine Or.inr (Or.inr ⟨by omega, ?_⟩); omega)) (by rw [c249, c238, c230, c222, c214, c206, c198, uw187]; rw [c250, c240, c232, c224, c216, c208]; first | exact Or.inl ⟨by omega, rfl⟩ | exact Or.inr ⟨by omega, u86⟩) (by rw [c249, c238, c230, c222, c214, c206, c198, uw187]; rw [c251, c241, c233, c225, c217]; first | exact Or.inl ⟨by omega, rfl⟩ | exact Or.inr ⟨by omega, u87⟩) (by rw [c249, c238, c230, c222, c214, c206, c198, uw187]; rw [c252, c242, c234, c226]; first | exact Or.inl ⟨by omega, rfl⟩ | exact Or.inr ⟨by omega, u88⟩) (by rw [c249, c238, c230, c222, c214, c206, c198, uw187]; rw [c253, c243, c235]; first | exact Or.inl ⟨by omega, rfl⟩ | exact Or.inr ⟨by omega, u89⟩) (by rw [c249, c238, c230, c222, c214, c206, c198, uw187]; rw [c254, c244]; first | exact Or.inl ⟨by omega, rfl⟩ | exact Or.inr ⟨by omega, u90⟩)
                      · refine sf_iconst sf_c1 (fun z258 ez258 => ?_)
                        refine sf_puti hI0 hs0 rfl rfl (sf_bd _) rfl rfl rfl (fun w259 Iw259 sw259 kw259 uw259 => ?_)
                        have c260 := sf_mf kw259 (p := 71) (j := 18) rfl
                        have c261 := sf_ma kw259 (p := 86) rfl
                        have c262 := sf_ma kw259 (p := 87) rfl
                        have c263 := sf_ma kw259 (p := 88) rfl
                        have c264 := sf_ma kw259 (p := 89) rfl
                        have c265 := sf_ma kw259 (p := 90) rfl
                        clear kw259
                        refine sf_aload rfl ?_
                        refine sf_geti Iw259 rfl rfl (fun v266 lv266 uv266 ev266 => ?_)
                        rw [uw259] at ev266
                        refine sf_f1_le (fun h267 => absurd h267 (by omega)) (fun h267 => ?_)
                        refine sf_iconst sf_c0 (fun z268 ez268 => ?_)
                        refine sf_ireturn rfl rfl ?_
                        exact hR _ _ Iw259 sw259 (by omega) (by omega) (by rw [uw259]; rw [c260]; first | (refine Or.inl ⟨by omega, ?_⟩; omega) | (refine Or.inr (Or.inl ⟨by omega, ?_⟩); omega) | (refine Or.inr (Or.inr ⟨by omega, ?_⟩); omega)) (by rw [uw259]; rw [c261]; first | exact Or.inl ⟨by omega, rfl⟩ | exact Or.inr ⟨by omega, u86⟩) (by rw [uw259]; rw [c262]; first | exact Or.inl ⟨by omega, rfl⟩ | exact Or.inr ⟨by omega, u87⟩) (by rw [uw259]; rw [c263]; first | exact Or.inl ⟨by omega, rfl⟩ | exact Or.inr ⟨by omega, u88⟩) (by rw [uw259]; rw [c264]; first | exact Or.inl ⟨by omega, rfl⟩ | exact Or.inr ⟨by omega, u89⟩) (by rw [uw259]; rw [c265]; first | exact Or.inl ⟨by omega, rfl⟩ | exact Or.inr ⟨by omega, u90⟩)
def sm_M_quotaLeft : List Nat := [71, 8100]
set_option maxRecDepth 100000 in
set_option maxHeartbeats 4000000 in
theorem sc_M_quotaLeft {w0 : wq_W} (hI0 : sf_I w0) {rt : Option wq_V → wq_W → Prop} {xt : Nat → wq_W → Prop} {a_q : Int32}  (hR : ∀ (r : Int32) (w : wq_W), sf_I w → sf_m sm_M_quotaLeft w0 w → rt (some (.inl (.int r))) w) : ks_M_quotaLeft [.inl (.ref 71), .inl (.int a_q)] w0 rt xt := by
  have hs0 : sf_m sm_M_quotaLeft w0 w0 := sf_m0
  refine sf_sp (L := [(0, .inl (.ref 71)), (1, .inl (.int a_q))]) rfl rfl ?_
  refine sf_aload rfl ?_
  refine sf_iload rfl ?_
  refine sf_f1_lt (fun h1 => ?_) (fun h1 => ?_)
  · refine sf_iconst sf_c1 (fun z2 ez2 => ?_)
    refine sf_puti hI0 hs0 rfl rfl (sf_bd _) rfl rfl rfl (fun w3 Iw3 sw3 kw3 uw3 => ?_)
    clear kw3
    refine sf_aload rfl ?_
    refine sf_geti Iw3 rfl rfl (fun v4 lv4 uv4 ev4 => ?_)
    rw [uw3] at ev4
    refine sf_f1_le (fun h5 => absurd h5 (by omega)) (fun h5 => ?_)
    refine sf_iconst sf_c0 (fun z6 ez6 => ?_)
    refine sf_ireturn rfl rfl ?_
    exact hR _ _ Iw3 sw3 
  · refine sf_iload rfl ?_
    refine sf_aload rfl ?_
    refine sf_geti hI0 rfl rfl (fun v7 lv7 uv7 ev7 => ?_)
    refine sf_f2_ge (fun h8 => ?_) (fun h8 => ?_)
    · refine sf_iconst sf_c1 (fun z9 ez9 => ?_)
      refine sf_puti hI0 hs0 rfl rfl (sf_bd _) rfl rfl rfl (fun w10 Iw10 sw10 kw10 uw10 => ?_)
      clear kw10
      refine sf_aload rfl ?_
      refine sf_geti Iw10 rfl rfl (fun v11 lv11 uv11 ev11 => ?_)
      rw [uw10] at ev11
      refine sf_f1_le (fun h12 => absurd h12 (by omega)) (fun h12 => ?_)
      refine sf_iconst sf_c0 (fun z13 ez13 => ?_)
      refine sf_ireturn rfl rfl ?_
      exact hR _ _ Iw10 sw10 
    · refine sf_iconst sf_c0 (fun z14 ez14 => ?_)
      refine sf_puti hI0 hs0 rfl rfl (sf_bd _) rfl rfl rfl (fun w15 Iw15 sw15 kw15 uw15 => ?_)
      clear kw15
      refine sf_aload rfl ?_
      refine sf_geti Iw15 rfl rfl (fun v16 lv16 uv16 ev16 => ?_)
      rw [uw15] at ev16
      refine sf_f1_le (fun h17 => ?_) (fun h17 => absurd h17 (by omega))
      refine sf_aload rfl ?_
      refine sf_getr Iw15 rfl rfl ?_
      refine sf_iload rfl ?_
      refine sf_iald Iw15 rfl (by omega) (fun v18 lv18 uv18 ev18 => ?_)
      clear lv18 uv18
      clear ev18
      refine sf_ireturn rfl rfl ?_
      exact hR _ _ Iw15 sw15 
def sm_M_part : List Nat := [71, 94, 95, 96, 97, 100, 8100]
set_option maxRecDepth 100000 in
set_option maxHeartbeats 4000000 in
theorem sc_M_part {w0 : wq_W} (hI0 : sf_I w0) {rt : Option wq_V → wq_W → Prop} {xt : Nat → wq_W → Prop} {a_good : Int32} {a_of : Int32} {a_value : Int32} {a_land : Int32}  (hR : ∀ (r : Int32) (w : wq_W), sf_I w → sf_m sm_M_part w0 w → 0 ≤ r.toInt → r.toInt ≤ 5 → rt (some (.inl (.int r))) w) : ks_M_part [.inl (.ref 71), .inl (.int a_good), .inl (.int a_of), .inl (.int a_value), .inl (.int a_land)] w0 rt xt := by
  have hs0 : sf_m sm_M_part w0 w0 := sf_m0
  refine sf_sp (L := [(0, .inl (.ref 71)), (1, .inl (.int a_good)), (2, .inl (.int a_of)), (3, .inl (.int a_value)), (4, .inl (.int a_land))]) rfl rfl ?_
  refine sf_iload rfl ?_
  refine sf_iconst sf_c0 (fun z1 ez1 => ?_)
  refine sf_iconst sf_c15 (fun z2 ez2 => ?_)
  refine sf_call3 rfl rfl rfl ?_
  refine sf_sp (L := [(0, .inl (.int a_good)), (1, .inl (.int z1)), (2, .inl (.int z2))]) rfl rfl ?_
  refine sf_iload rfl ?_
  refine sf_iload rfl ?_
  refine sf_f2_lt (fun h3 => ?_) (fun h3 => ?_)
  · refine sf_iconst sf_c0 (fun z4 ez4 => ?_)
    refine sf_zreturn (by omega) rfl rfl ?_
    refine sf_f1_eq (fun h5 => ?_) (fun h5 => absurd h5 (by omega))
    refine sf_iconst sf_c0 (fun z6 ez6 => ?_)
    refine sf_istore (L' := [(0, .inl (.ref 71)), (1, .inl (.int a_good)), (2, .inl (.int a_of)), (3, .inl (.int a_value)), (4, .inl (.int a_land))]) rfl ?_
    refine sf_aload rfl ?_
    refine sf_iload rfl ?_
    refine sf_f1_eq (fun h7 => ?_) (fun h7 => absurd h7 (by omega))
    refine sf_iconst sf_c1 (fun z8 ez8 => ?_)
    refine sf_puti hI0 hs0 rfl rfl (sf_bd _) rfl rfl rfl (fun w9 Iw9 sw9 kw9 uw9 => ?_)
    have c10 := sf_ma kw9 (p := 94) rfl
    clear kw9
    refine sf_aload rfl ?_
    refine sf_geti Iw9 rfl rfl (fun v11 lv11 uv11 ev11 => ?_)
    rw [uw9] at ev11
    refine sf_f1_le (fun h12 => absurd h12 (by omega)) (fun h12 => ?_)
    refine sf_iconst sf_c0 (fun z13 ez13 => ?_)
    refine sf_ireturn rfl rfl ?_
    exact hR _ _ Iw9 sw9 (by omega) (by omega) 
  · refine sf_iload rfl ?_
    refine sf_iload rfl ?_
    refine sf_f2_gt (fun h14 => ?_) (fun h14 => ?_)
    · refine sf_iconst sf_c0 (fun z15 ez15 => ?_)
      refine sf_zreturn (by omega) rfl rfl ?_
      refine sf_f1_eq (fun h16 => ?_) (fun h16 => absurd h16 (by omega))
      refine sf_iconst sf_c0 (fun z17 ez17 => ?_)
      refine sf_istore (L' := [(0, .inl (.ref 71)), (1, .inl (.int a_good)), (2, .inl (.int a_of)), (3, .inl (.int a_value)), (4, .inl (.int a_land))]) rfl ?_
      refine sf_aload rfl ?_
      refine sf_iload rfl ?_
      refine sf_f1_eq (fun h18 => ?_) (fun h18 => absurd h18 (by omega))
      refine sf_iconst sf_c1 (fun z19 ez19 => ?_)
      refine sf_puti hI0 hs0 rfl rfl (sf_bd _) rfl rfl rfl (fun w20 Iw20 sw20 kw20 uw20 => ?_)
      have c21 := sf_ma kw20 (p := 94) rfl
      clear kw20
      refine sf_aload rfl ?_
      refine sf_geti Iw20 rfl rfl (fun v22 lv22 uv22 ev22 => ?_)
      rw [uw20] at ev22
      refine sf_f1_le (fun h23 => absurd h23 (by omega)) (fun h23 => ?_)
      refine sf_iconst sf_c0 (fun z24 ez24 => ?_)
      refine sf_ireturn rfl rfl ?_
      exact hR _ _ Iw20 sw20 (by omega) (by omega) 
    · refine sf_iconst sf_c1 (fun z25 ez25 => ?_)
      refine sf_zreturn (by omega) rfl rfl ?_
      refine sf_f1_eq (fun h26 => absurd h26 (by omega)) (fun h26 => ?_)
      refine sf_iload rfl ?_
      refine sf_iconst sf_c0 (fun z27 ez27 => ?_)
      refine sf_iconst sf_c15 (fun z28 ez28 => ?_)
      refine sf_call3 rfl rfl rfl ?_
      refine sf_sp (L := [(0, .inl (.int a_of)), (1, .inl (.int z27)), (2, .inl (.int z28))]) rfl rfl ?_
      refine sf_iload rfl ?_
      refine sf_iload rfl ?_
      refine sf_f2_lt (fun h29 => ?_) (fun h29 => ?_)
      · refine sf_iconst sf_c0 (fun z30 ez30 => ?_)
        refine sf_zreturn (by omega) rfl rfl ?_
        refine sf_f1_eq (fun h31 => ?_) (fun h31 => absurd h31 (by omega))
        refine sf_iconst sf_c0 (fun z32 ez32 => ?_)
        refine sf_istore (L' := [(0, .inl (.ref 71)), (1, .inl (.int a_good)), (2, .inl (.int a_of)), (3, .inl (.int a_value)), (4, .inl (.int a_land))]) rfl ?_
        refine sf_aload rfl ?_
        refine sf_iload rfl ?_
        refine sf_f1_eq (fun h33 => ?_) (fun h33 => absurd h33 (by omega))
        refine sf_iconst sf_c1 (fun z34 ez34 => ?_)
        refine sf_puti hI0 hs0 rfl rfl (sf_bd _) rfl rfl rfl (fun w35 Iw35 sw35 kw35 uw35 => ?_)
        have c36 := sf_ma kw35 (p := 94) rfl
        clear kw35
        refine sf_aload rfl ?_
        refine sf_geti Iw35 rfl rfl (fun v37 lv37 uv37 ev37 => ?_)
        rw [uw35] at ev37
        refine sf_f1_le (fun h38 => absurd h38 (by omega)) (fun h38 => ?_)
        refine sf_iconst sf_c0 (fun z39 ez39 => ?_)
        refine sf_ireturn rfl rfl ?_
        exact hR _ _ Iw35 sw35 (by omega) (by omega) 
      · refine sf_iload rfl ?_
        refine sf_iload rfl ?_
        refine sf_f2_gt (fun h40 => ?_) (fun h40 => ?_)
        · refine sf_iconst sf_c0 (fun z41 ez41 => ?_)
          refine sf_zreturn (by omega) rfl rfl ?_
          refine sf_f1_eq (fun h42 => ?_) (fun h42 => absurd h42 (by omega))
          refine sf_iconst sf_c0 (fun z43 ez43 => ?_)
          refine sf_istore (L' := [(0, .inl (.ref 71)), (1, .inl (.int a_good)), (2, .inl (.int a_of)), (3, .inl (.int a_value)), (4, .inl (.int a_land))]) rfl ?_
          refine sf_aload rfl ?_
          refine sf_iload rfl ?_
          refine sf_f1_eq (fun h44 => ?_) (fun h44 => absurd h44 (by omega))
          refine sf_iconst sf_c1 (fun z45 ez45 => ?_)
          refine sf_puti hI0 hs0 rfl rfl (sf_bd _) rfl rfl rfl (fun w46 Iw46 sw46 kw46 uw46 => ?_)
          have c47 := sf_ma kw46 (p := 94) rfl
          clear kw46
          refine sf_aload rfl ?_
          refine sf_geti Iw46 rfl rfl (fun v48 lv48 uv48 ev48 => ?_)
          rw [uw46] at ev48
          refine sf_f1_le (fun h49 => absurd h49 (by omega)) (fun h49 => ?_)
          refine sf_iconst sf_c0 (fun z50 ez50 => ?_)
          refine sf_ireturn rfl rfl ?_
          exact hR _ _ Iw46 sw46 (by omega) (by omega) 
        · refine sf_iconst sf_c1 (fun z51 ez51 => ?_)
          refine sf_zreturn (by omega) rfl rfl ?_
          refine sf_f1_eq (fun h52 => absurd h52 (by omega)) (fun h52 => ?_)
          refine sf_iload rfl ?_
          refine sf_iconst sf_c0 (fun z53 ez53 => ?_)
          refine sf_iconst sf_cl1000000 (fun z54 ez54 => ?_)
          refine sf_call3 rfl rfl rfl ?_
          refine sf_sp (L := [(0, .inl (.int a_value)), (1, .inl (.int z53)), (2, .inl (.int z54))]) rfl rfl ?_
          refine sf_iload rfl ?_
          refine sf_iload rfl ?_
          refine sf_f2_lt (fun h55 => ?_) (fun h55 => ?_)
          · refine sf_iconst sf_c0 (fun z56 ez56 => ?_)
            refine sf_zreturn (by omega) rfl rfl ?_
            refine sf_f1_eq (fun h57 => ?_) (fun h57 => absurd h57 (by omega))
            refine sf_iconst sf_c0 (fun z58 ez58 => ?_)
            refine sf_istore (L' := [(0, .inl (.ref 71)), (1, .inl (.int a_good)), (2, .inl (.int a_of)), (3, .inl (.int a_value)), (4, .inl (.int a_land))]) rfl ?_
            refine sf_aload rfl ?_
            refine sf_iload rfl ?_
            refine sf_f1_eq (fun h59 => ?_) (fun h59 => absurd h59 (by omega))
            refine sf_iconst sf_c1 (fun z60 ez60 => ?_)
            refine sf_puti hI0 hs0 rfl rfl (sf_bd _) rfl rfl rfl (fun w61 Iw61 sw61 kw61 uw61 => ?_)
            have c62 := sf_ma kw61 (p := 94) rfl
            clear kw61
            refine sf_aload rfl ?_
            refine sf_geti Iw61 rfl rfl (fun v63 lv63 uv63 ev63 => ?_)
            rw [uw61] at ev63
            refine sf_f1_le (fun h64 => absurd h64 (by omega)) (fun h64 => ?_)
            refine sf_iconst sf_c0 (fun z65 ez65 => ?_)
            refine sf_ireturn rfl rfl ?_
            exact hR _ _ Iw61 sw61 (by omega) (by omega) 
          · refine sf_iload rfl ?_
            refine sf_iload rfl ?_
            refine sf_f2_gt (fun h66 => ?_) (fun h66 => ?_)
            · refine sf_iconst sf_c0 (fun z67 ez67 => ?_)
              refine sf_zreturn (by omega) rfl rfl ?_
              refine sf_f1_eq (fun h68 => ?_) (fun h68 => absurd h68 (by omega))
              refine sf_iconst sf_c0 (fun z69 ez69 => ?_)
              refine sf_istore (L' := [(0, .inl (.ref 71)), (1, .inl (.int a_good)), (2, .inl (.int a_of)), (3, .inl (.int a_value)), (4, .inl (.int a_land))]) rfl ?_
              refine sf_aload rfl ?_
              refine sf_iload rfl ?_
              refine sf_f1_eq (fun h70 => ?_) (fun h70 => absurd h70 (by omega))
              refine sf_iconst sf_c1 (fun z71 ez71 => ?_)
              refine sf_puti hI0 hs0 rfl rfl (sf_bd _) rfl rfl rfl (fun w72 Iw72 sw72 kw72 uw72 => ?_)
              have c73 := sf_ma kw72 (p := 94) rfl
              clear kw72
              refine sf_aload rfl ?_
              refine sf_geti Iw72 rfl rfl (fun v74 lv74 uv74 ev74 => ?_)
              rw [uw72] at ev74
              refine sf_f1_le (fun h75 => absurd h75 (by omega)) (fun h75 => ?_)
              refine sf_iconst sf_c0 (fun z76 ez76 => ?_)
              refine sf_ireturn rfl rfl ?_
              exact hR _ _ Iw72 sw72 (by omega) (by omega) 
            · refine sf_iconst sf_c1 (fun z77 ez77 => ?_)
              refine sf_zreturn (by omega) rfl rfl ?_
              refine sf_f1_eq (fun h78 => absurd h78 (by omega)) (fun h78 => ?_)
              refine sf_iload rfl ?_
              refine sf_iconst sf_c0 (fun z79 ez79 => ?_)
              refine sf_iconst sf_c7 (fun z80 ez80 => ?_)
              refine sf_call3 rfl rfl rfl ?_
              refine sf_sp (L := [(0, .inl (.int a_land)), (1, .inl (.int z79)), (2, .inl (.int z80))]) rfl rfl ?_
              refine sf_iload rfl ?_
              refine sf_iload rfl ?_
              refine sf_f2_lt (fun h81 => ?_) (fun h81 => ?_)
              · refine sf_iconst sf_c0 (fun z82 ez82 => ?_)
                refine sf_zreturn (by omega) rfl rfl ?_
                refine sf_f1_eq (fun h83 => ?_) (fun h83 => absurd h83 (by omega))
                refine sf_iconst sf_c0 (fun z84 ez84 => ?_)
                refine sf_istore (L' := [(0, .inl (.ref 71)), (1, .inl (.int a_good)), (2, .inl (.int a_of)), (3, .inl (.int a_value)), (4, .inl (.int a_land))]) rfl ?_
                refine sf_aload rfl ?_
                refine sf_iload rfl ?_
                refine sf_f1_eq (fun h85 => ?_) (fun h85 => absurd h85 (by omega))
                refine sf_iconst sf_c1 (fun z86 ez86 => ?_)
                refine sf_puti hI0 hs0 rfl rfl (sf_bd _) rfl rfl rfl (fun w87 Iw87 sw87 kw87 uw87 => ?_)
                have c88 := sf_ma kw87 (p := 94) rfl
                clear kw87
                refine sf_aload rfl ?_
                refine sf_geti Iw87 rfl rfl (fun v89 lv89 uv89 ev89 => ?_)
                rw [uw87] at ev89
                refine sf_f1_le (fun h90 => absurd h90 (by omega)) (fun h90 => ?_)
                refine sf_iconst sf_c0 (fun z91 ez91 => ?_)
                refine sf_ireturn rfl rfl ?_
                exact hR _ _ Iw87 sw87 (by omega) (by omega) 
              · refine sf_iload rfl ?_
                refine sf_iload rfl ?_
                refine sf_f2_gt (fun h92 => ?_) (fun h92 => ?_)
                · refine sf_iconst sf_c0 (fun z93 ez93 => ?_)
                  refine sf_zreturn (by omega) rfl rfl ?_
                  refine sf_f1_eq (fun h94 => ?_) (fun h94 => absurd h94 (by omega))
                  refine sf_iconst sf_c0 (fun z95 ez95 => ?_)
                  refine sf_istore (L' := [(0, .inl (.ref 71)), (1, .inl (.int a_good)), (2, .inl (.int a_of)), (3, .inl (.int a_value)), (4, .inl (.int a_land))]) rfl ?_
                  refine sf_aload rfl ?_
                  refine sf_iload rfl ?_
                  refine sf_f1_eq (fun h96 => ?_) (fun h96 => absurd h96 (by omega))
                  refine sf_iconst sf_c1 (fun z97 ez97 => ?_)
                  refine sf_puti hI0 hs0 rfl rfl (sf_bd _) rfl rfl rfl (fun w98 Iw98 sw98 kw98 uw98 => ?_)
                  have c99 := sf_ma kw98 (p := 94) rfl
                  clear kw98
                  refine sf_aload rfl ?_
                  refine sf_geti Iw98 rfl rfl (fun v100 lv100 uv100 ev100 => ?_)
                  rw [uw98] at ev100
                  refine sf_f1_le (fun h101 => absurd h101 (by omega)) (fun h101 => ?_)
                  refine sf_iconst sf_c0 (fun z102 ez102 => ?_)
                  refine sf_ireturn rfl rfl ?_
                  exact hR _ _ Iw98 sw98 (by omega) (by omega) 
                · refine sf_iconst sf_c1 (fun z103 ez103 => ?_)
                  refine sf_zreturn (by omega) rfl rfl ?_
                  refine sf_f1_eq (fun h104 => absurd h104 (by omega)) (fun h104 => ?_)
                  refine sf_iconst sf_c1 (fun z105 ez105 => ?_)
                  refine sf_istore (L' := [(0, .inl (.ref 71)), (1, .inl (.int a_good)), (2, .inl (.int a_of)), (3, .inl (.int a_value)), (4, .inl (.int a_land))]) rfl ?_
                  refine sf_aload rfl ?_
                  refine sf_iload rfl ?_
                  refine sf_f1_eq (fun h106 => absurd h106 (by omega)) (fun h106 => ?_)
                  refine sf_aload rfl ?_
                  refine sf_iload rfl ?_
                  refine sf_iload rfl ?_
                  refine sf_call3 rfl rfl rfl ?_
                  refine sf_rv hI0 rfl ?_
                  refine sc_M_reaches hI0 (by omega) (by omega) (fun v107 w108 Iw108 tw108 lv107 uv107 => ?_)
                  have s110 := sf_mt hs0 tw108 rfl
                  have c111 := sf_mf tw108 (p := 71) (j := 0) rfl
                  have c112 := sf_ma tw108 (p := 94) rfl
                  refine sf_f1_eq (fun h113 => ?_) (fun h113 => ?_)
                  · refine sf_aload rfl ?_
                    refine sf_getr Iw108 rfl rfl ?_
                    refine sf_iload rfl ?_
                    refine sf_iald Iw108 rfl (by omega) (fun v114 lv114 uv114 ev114 => ?_)
                    rw [c112] at ev114
                    refine sf_iconst sf_c5 (fun z115 ez115 => ?_)
                    refine sf_f2_eq (fun h116 => ?_) (fun h116 => ?_)
                    · refine sf_iconst sf_c2 (fun z117 ez117 => ?_)
                      refine sf_puti Iw108 s110 rfl rfl (sf_bd _) rfl rfl rfl (fun w118 Iw118 sw118 kw118 uw118 => ?_)
                      have c119 := sf_ma kw118 (p := 94) rfl
                      clear kw118
                      refine sf_aload rfl ?_
                      refine sf_geti Iw118 rfl rfl (fun v120 lv120 uv120 ev120 => ?_)
                      rw [uw118] at ev120
                      refine sf_f1_le (fun h121 => absurd h121 (by omega)) (fun h121 => ?_)
                      refine sf_iconst sf_c0 (fun z122 ez122 => ?_)
                      refine sf_ireturn rfl rfl ?_
                      exact hR _ _ Iw118 sw118 (by omega) (by omega) 
                    · refine sf_iconst sf_c0 (fun z123 ez123 => ?_)
                      refine sf_puti Iw108 s110 rfl rfl (sf_bd _) rfl rfl rfl (fun w124 Iw124 sw124 kw124 uw124 => ?_)
                      have c125 := sf_ma kw124 (p := 94) rfl
                      clear kw124
                      refine sf_aload rfl ?_
                      refine sf_geti Iw124 rfl rfl (fun v126 lv126 uv126 ev126 => ?_)
                      rw [uw124] at ev126
                      refine sf_f1_le (fun h127 => ?_) (fun h127 => absurd h127 (by omega))
                      refine sf_iconst sf_c5 (fun z128 ez128 => ?_)
                      refine sf_iload rfl ?_
                      refine sf_imull (n := 5) (by omega) (by omega) (fun v129 ev129 => ?_)
                      refine sf_aload rfl ?_
                      refine sf_getr Iw124 rfl rfl ?_
                      refine sf_iload rfl ?_
                      refine sf_iald Iw124 rfl (by omega) (fun v130 lv130 uv130 ev130 => ?_)
                      rw [c125, c112] at ev130
                      refine sf_iadd (by omega) (fun v131 ev131 => ?_)
                      refine sf_istore (L' := [(5, .inl (.int z105)), (0, .inl (.ref 71)), (1, .inl (.int a_good)), (2, .inl (.int a_of)), (3, .inl (.int a_value)), (4, .inl (.int a_land))]) rfl ?_
                      refine sf_aload rfl ?_
                      refine sf_getr Iw124 rfl rfl ?_
                      refine sf_iload rfl ?_
                      refine sf_iload rfl ?_
                      refine sf_iast Iw124 sw124 rfl (by omega) (by omega) rfl rfl (fun w132 Iw132 sw132 kw132 uw132 => ?_)
                      have c133 := sf_mf kw132 (p := 71) (j := 0) rfl
                      have c134 := sf_ma kw132 (p := 94) rfl
                      clear kw132 uw132
                      refine sf_aload rfl ?_
                      refine sf_getr Iw132 rfl rfl ?_
                      refine sf_iload rfl ?_
                      refine sf_iload rfl ?_
                      refine sf_iast Iw132 sw132 rfl (by omega) (sf_bd _) rfl rfl (fun w135 Iw135 sw135 kw135 uw135 => ?_)
                      have c136 := sf_mf kw135 (p := 71) (j := 0) rfl
                      have c137 := sf_ma kw135 (p := 94) rfl
                      clear kw135 uw135
                      refine sf_aload rfl ?_
                      refine sf_getr Iw135 rfl rfl ?_
                      refine sf_iload rfl ?_
                      refine sf_iload rfl ?_
                      refine sf_iast Iw135 sw135 rfl (by omega) (sf_bd _) rfl rfl (fun w138 Iw138 sw138 kw138 uw138 => ?_)
                      have c139 := sf_mf kw138 (p := 71) (j := 0) rfl
                      have c140 := sf_ma kw138 (p := 94) rfl
                      clear kw138 uw138
                      refine sf_aload rfl ?_
                      refine sf_getr Iw138 rfl rfl ?_
                      refine sf_iload rfl ?_
                      refine sf_dup2 rfl rfl ?_
                      refine sf_iald Iw138 rfl (by omega) (fun v141 lv141 uv141 ev141 => ?_)
                      rw [c140, c137, c134, c125, c112] at ev141
                      refine sf_iconst sf_c1 (fun z142 ez142 => ?_)
                      refine sf_iadd (by omega) (fun v143 ev143 => ?_)
                      refine sf_iast Iw138 sw138 rfl (by omega) (by omega) rfl rfl (fun w144 Iw144 sw144 kw144 uw144 => ?_)
                      have c145 := sf_mf kw144 (p := 71) (j := 0) rfl
                      clear kw144 uw144
                      refine sf_aload rfl ?_
                      refine sf_getr Iw144 rfl rfl ?_
                      refine sf_iload rfl ?_
                      refine sf_iald Iw144 rfl (by omega) (fun v146 lv146 uv146 ev146 => ?_)
                      refine sf_ireturn rfl rfl ?_
                      exact hR _ _ Iw144 sw144 (by omega) (by omega) 
                  · refine sf_iconst sf_c1 (fun z147 ez147 => ?_)
                    refine sf_puti Iw108 s110 rfl rfl (sf_bd _) rfl rfl rfl (fun w148 Iw148 sw148 kw148 uw148 => ?_)
                    have c149 := sf_ma kw148 (p := 94) rfl
                    clear kw148
                    refine sf_aload rfl ?_
                    refine sf_geti Iw148 rfl rfl (fun v150 lv150 uv150 ev150 => ?_)
                    rw [uw148] at ev150
                    refine sf_f1_le (fun h151 => absurd h151 (by omega)) (fun h151 => ?_)
                    refine sf_iconst sf_c0 (fun z152 ez152 => ?_)
                    refine sf_ireturn rfl rfl ?_
                    exact hR _ _ Iw148 sw148 (by omega) (by omega) 
