def sm_W_quota_0_130 : List Nat := [21, 22, 23, 24, 25, 26, 27, 130, 3101]
set_option maxRecDepth 100000 in
set_option maxHeartbeats 4000000 in
theorem sc_W_quota_0_130 {w0 : wq_W} (hI0 : sf_I w0) {rt : Option wq_V → wq_W → Prop} {xt : Nat → wq_W → Prop} {a_l1 : Int32} {a_l2 : Int32} {a_l3 : Int32} {a_l4 : Int32} {a_l5 : Int32} {a_l6 : Int32}  (hR : ∀ (r : Int32) (w : wq_W), sf_I w → sf_m sm_W_quota_0_130 w0 w → 0 ≤ r.toInt → r.toInt ≤ 2 → (((r.toInt = 0 ∧ (0 ≤ a_l1.toInt ∧ a_l1.toInt < (sf_f w0 1 0).toInt ∧ 0 ≤ a_l2.toInt ∧ a_l2.toInt ≤ 7 ∧ 1 ≤ a_l3.toInt ∧ a_l3.toInt ≤ 100000 ∧ 0 ≤ a_l4.toInt ∧ a_l4.toInt ≤ 10000 ∧ 0 ≤ a_l5.toInt ∧ a_l5.toInt ≤ a_l6.toInt ∧ a_l6.toInt ≤ 9999) ∧ ((sf_f w0 21 1).toInt < 8) ∧ (sf_f w 21 1).toInt = (sf_f w0 21 1).toInt + 1 ∧ (sf_l w 130 0).toInt = (sf_f w0 21 1).toInt) ∨ (r.toInt = 1 ∧ ¬ (0 ≤ a_l1.toInt ∧ a_l1.toInt < (sf_f w0 1 0).toInt ∧ 0 ≤ a_l2.toInt ∧ a_l2.toInt ≤ 7 ∧ 1 ≤ a_l3.toInt ∧ a_l3.toInt ≤ 100000 ∧ 0 ≤ a_l4.toInt ∧ a_l4.toInt ≤ 10000 ∧ 0 ≤ a_l5.toInt ∧ a_l5.toInt ≤ a_l6.toInt ∧ a_l6.toInt ≤ 9999) ∧ (sf_f w 21 1).toInt = (sf_f w0 21 1).toInt) ∨ (r.toInt = 2 ∧ (0 ≤ a_l1.toInt ∧ a_l1.toInt < (sf_f w0 1 0).toInt ∧ 0 ≤ a_l2.toInt ∧ a_l2.toInt ≤ 7 ∧ 1 ≤ a_l3.toInt ∧ a_l3.toInt ≤ 100000 ∧ 0 ≤ a_l4.toInt ∧ a_l4.toInt ≤ 10000 ∧ 0 ≤ a_l5.toInt ∧ a_l5.toInt ≤ a_l6.toInt ∧ a_l6.toInt ≤ 9999) ∧ ¬ ((sf_f w0 21 1).toInt < 8) ∧ (sf_f w 21 1).toInt = (sf_f w0 21 1).toInt))) → rt (some (.inl (.int r))) w) : ks_W_quota [.inl (.ref 0), .inl (.int a_l1), .inl (.int a_l2), .inl (.int a_l3), .inl (.int a_l4), .inl (.int a_l5), .inl (.int a_l6), .inl (.ref 130)] w0 rt xt := by
  have hs0 : sf_m sm_W_quota_0_130 w0 w0 := sf_m0
  refine sf_sp (L := [(0, .inl (.ref 0)), (1, .inl (.int a_l1)), (2, .inl (.int a_l2)), (3, .inl (.int a_l3)), (4, .inl (.int a_l4)), (5, .inl (.int a_l5)), (6, .inl (.int a_l6)), (7, .inl (.ref 130))]) rfl rfl ?_
  refine sf_aload rfl ?_
  refine sf_iconst sf_c0 (fun z1 ez1 => ?_)
  refine sf_aload rfl ?_
  refine sf_iload rfl ?_
  refine sf_iload rfl ?_
  refine sf_iload rfl ?_
  refine sf_iload rfl ?_
  refine sf_iload rfl ?_
  refine sf_iload rfl ?_
  refine sf_call7 rfl rfl rfl ?_
  refine sf_rv hI0 rfl ?_
  refine sf_sp (L := [(0, .inl (.ref 0)), (1, .inl (.int a_l1)), (2, .inl (.int a_l2)), (3, .inl (.int a_l3)), (4, .inl (.int a_l4)), (5, .inl (.int a_l5)), (6, .inl (.int a_l6))]) rfl rfl ?_
  refine sf_aload rfl ?_
  refine sf_iload rfl ?_
  refine sf_call2 rfl rfl rfl ?_
  refine sf_rv hI0 rfl ?_
  refine sf_sp (L := [(0, .inl (.ref 0)), (1, .inl (.int a_l1))]) rfl rfl ?_
  refine sf_iload rfl ?_
  refine sf_aload rfl ?_
  refine sf_getr hI0 rfl rfl ?_
  refine sf_geti hI0 rfl rfl (fun v2 lv2 uv2 ev2 => ?_)
  refine sf_call2 rfl rfl rfl ?_
  refine sf_sp (L := [(0, .inl (.int a_l1)), (1, .inl (.int v2))]) rfl rfl ?_
  refine sf_iconst sf_c0 (fun z3 ez3 => ?_)
  refine sf_iload rfl ?_
  refine sf_f2_gt (fun h4 => ?_) (fun h4 => ?_)
  · refine sf_iconst sf_c0 (fun z5 ez5 => ?_)
    refine sf_zreturn (by omega) rfl rfl ?_
    refine sf_zreturn (by omega) rfl rfl ?_
    refine sf_f1_eq (fun h6 => ?_) (fun h6 => absurd h6 (by omega))
    refine sf_iconst sf_c0 (fun z7 ez7 => ?_)
    refine sf_call1 rfl rfl rfl ?_
    refine sf_sp (L := [(0, .inl (.int z7))]) rfl rfl ?_
    refine sf_iload rfl ?_
    refine sf_f1_eq (fun h8 => ?_) (fun h8 => absurd h8 (by omega))
    refine sf_throw rfl rfl ?_
    refine sf_xout rfl rfl ?_
    refine sf_xhh (L' := [(0, .inl (.ref 0)), (1, .inl (.int a_l1)), (2, .inl (.int a_l2)), (3, .inl (.int a_l3)), (4, .inl (.int a_l4)), (5, .inl (.int a_l5)), (6, .inl (.int a_l6)), (7, .inl (.ref 130))]) rfl rfl ?_
    refine sf_iconst sf_c1 (fun z9 ez9 => ?_)
    refine sf_ireturn rfl rfl ?_
    exact hR _ _ hI0 hs0 (by omega) (by omega) (by first | (refine Or.inl ⟨by omega, ?_⟩; omega) | (refine Or.inr (Or.inl ⟨by omega, ?_⟩); omega) | (refine Or.inr (Or.inr ⟨by omega, ?_⟩); omega))
  · refine sf_iload rfl ?_
    refine sf_iload rfl ?_
    refine sf_f2_ge (fun h10 => ?_) (fun h10 => ?_)
    · refine sf_iconst sf_c0 (fun z11 ez11 => ?_)
      refine sf_zreturn (by omega) rfl rfl ?_
      refine sf_zreturn (by omega) rfl rfl ?_
      refine sf_f1_eq (fun h12 => ?_) (fun h12 => absurd h12 (by omega))
      refine sf_iconst sf_c0 (fun z13 ez13 => ?_)
      refine sf_call1 rfl rfl rfl ?_
      refine sf_sp (L := [(0, .inl (.int z13))]) rfl rfl ?_
      refine sf_iload rfl ?_
      refine sf_f1_eq (fun h14 => ?_) (fun h14 => absurd h14 (by omega))
      refine sf_throw rfl rfl ?_
      refine sf_xout rfl rfl ?_
      refine sf_xhh (L' := [(0, .inl (.ref 0)), (1, .inl (.int a_l1)), (2, .inl (.int a_l2)), (3, .inl (.int a_l3)), (4, .inl (.int a_l4)), (5, .inl (.int a_l5)), (6, .inl (.int a_l6)), (7, .inl (.ref 130))]) rfl rfl ?_
      refine sf_iconst sf_c1 (fun z15 ez15 => ?_)
      refine sf_ireturn rfl rfl ?_
      exact hR _ _ hI0 hs0 (by omega) (by omega) (by first | (refine Or.inl ⟨by omega, ?_⟩; omega) | (refine Or.inr (Or.inl ⟨by omega, ?_⟩); omega) | (refine Or.inr (Or.inr ⟨by omega, ?_⟩); omega))
    · refine sf_iconst sf_c1 (fun z16 ez16 => ?_)
      refine sf_zreturn (by omega) rfl rfl ?_
      refine sf_zreturn (by omega) rfl rfl ?_
      refine sf_f1_eq (fun h17 => absurd h17 (by omega)) (fun h17 => ?_)
      refine sf_iload rfl ?_
      refine sf_call1 rfl rfl rfl ?_
      refine sf_sp (L := [(0, .inl (.int a_l2))]) rfl rfl ?_
      refine sf_iload rfl ?_
      refine sf_iconst sf_c8 (fun z18 ez18 => ?_)
      refine sf_call2 rfl rfl rfl ?_
      refine sf_sp (L := [(0, .inl (.int a_l2)), (1, .inl (.int z18))]) rfl rfl ?_
      refine sf_iconst sf_c0 (fun z19 ez19 => ?_)
      refine sf_iload rfl ?_
      refine sf_f2_gt (fun h20 => ?_) (fun h20 => ?_)
      · refine sf_iconst sf_c0 (fun z21 ez21 => ?_)
        refine sf_zreturn (by omega) rfl rfl ?_
        refine sf_zreturn (by omega) rfl rfl ?_
        refine sf_f1_eq (fun h22 => ?_) (fun h22 => absurd h22 (by omega))
        refine sf_iconst sf_c0 (fun z23 ez23 => ?_)
        refine sf_call1 rfl rfl rfl ?_
        refine sf_sp (L := [(0, .inl (.int z23))]) rfl rfl ?_
        refine sf_iload rfl ?_
        refine sf_f1_eq (fun h24 => ?_) (fun h24 => absurd h24 (by omega))
        refine sf_throw rfl rfl ?_
        refine sf_xout rfl rfl ?_
        refine sf_xhh (L' := [(0, .inl (.ref 0)), (1, .inl (.int a_l1)), (2, .inl (.int a_l2)), (3, .inl (.int a_l3)), (4, .inl (.int a_l4)), (5, .inl (.int a_l5)), (6, .inl (.int a_l6)), (7, .inl (.ref 130))]) rfl rfl ?_
        refine sf_iconst sf_c1 (fun z25 ez25 => ?_)
        refine sf_ireturn rfl rfl ?_
        exact hR _ _ hI0 hs0 (by omega) (by omega) (by first | (refine Or.inl ⟨by omega, ?_⟩; omega) | (refine Or.inr (Or.inl ⟨by omega, ?_⟩); omega) | (refine Or.inr (Or.inr ⟨by omega, ?_⟩); omega))
      · refine sf_iload rfl ?_
        refine sf_iload rfl ?_
        refine sf_f2_ge (fun h26 => ?_) (fun h26 => ?_)
        · refine sf_iconst sf_c0 (fun z27 ez27 => ?_)
          refine sf_zreturn (by omega) rfl rfl ?_
          refine sf_zreturn (by omega) rfl rfl ?_
          refine sf_f1_eq (fun h28 => ?_) (fun h28 => absurd h28 (by omega))
          refine sf_iconst sf_c0 (fun z29 ez29 => ?_)
          refine sf_call1 rfl rfl rfl ?_
          refine sf_sp (L := [(0, .inl (.int z29))]) rfl rfl ?_
          refine sf_iload rfl ?_
          refine sf_f1_eq (fun h30 => ?_) (fun h30 => absurd h30 (by omega))
          refine sf_throw rfl rfl ?_
          refine sf_xout rfl rfl ?_
          refine sf_xhh (L' := [(0, .inl (.ref 0)), (1, .inl (.int a_l1)), (2, .inl (.int a_l2)), (3, .inl (.int a_l3)), (4, .inl (.int a_l4)), (5, .inl (.int a_l5)), (6, .inl (.int a_l6)), (7, .inl (.ref 130))]) rfl rfl ?_
          refine sf_iconst sf_c1 (fun z31 ez31 => ?_)
          refine sf_ireturn rfl rfl ?_
          exact hR _ _ hI0 hs0 (by omega) (by omega) (by first | (refine Or.inl ⟨by omega, ?_⟩; omega) | (refine Or.inr (Or.inl ⟨by omega, ?_⟩); omega) | (refine Or.inr (Or.inr ⟨by omega, ?_⟩); omega))
        · refine sf_iconst sf_c1 (fun z32 ez32 => ?_)
          refine sf_zreturn (by omega) rfl rfl ?_
          refine sf_zreturn (by omega) rfl rfl ?_
          refine sf_f1_eq (fun h33 => absurd h33 (by omega)) (fun h33 => ?_)
          refine sf_iconst sf_c1 (fun z34 ez34 => ?_)
          refine sf_call1 rfl rfl rfl ?_
          refine sf_sp (L := [(0, .inl (.int z34))]) rfl rfl ?_
          refine sf_iload rfl ?_
          refine sf_f1_eq (fun h35 => absurd h35 (by omega)) (fun h35 => ?_)
          refine sf_vreturn rfl rfl ?_
          refine sf_iload rfl ?_
          refine sf_iconst sf_c1 (fun z36 ez36 => ?_)
          refine sf_iconst sf_cl100000 (fun z37 ez37 => ?_)
          refine sf_call3 rfl rfl rfl ?_
          refine sf_sp (L := [(0, .inl (.int a_l3)), (1, .inl (.int z36)), (2, .inl (.int z37))]) rfl rfl ?_
          refine sf_iload rfl ?_
          refine sf_iload rfl ?_
          refine sf_f2_gt (fun h38 => ?_) (fun h38 => ?_)
          · refine sf_iconst sf_c0 (fun z39 ez39 => ?_)
            refine sf_zreturn (by omega) rfl rfl ?_
            refine sf_f1_eq (fun h40 => ?_) (fun h40 => absurd h40 (by omega))
            refine sf_iconst sf_c0 (fun z41 ez41 => ?_)
            refine sf_call1 rfl rfl rfl ?_
            refine sf_sp (L := [(0, .inl (.int z41))]) rfl rfl ?_
            refine sf_iload rfl ?_
            refine sf_f1_eq (fun h42 => ?_) (fun h42 => absurd h42 (by omega))
            refine sf_throw rfl rfl ?_
            refine sf_xout rfl rfl ?_
            refine sf_xhh (L' := [(0, .inl (.ref 0)), (1, .inl (.int a_l1)), (2, .inl (.int a_l2)), (3, .inl (.int a_l3)), (4, .inl (.int a_l4)), (5, .inl (.int a_l5)), (6, .inl (.int a_l6)), (7, .inl (.ref 130))]) rfl rfl ?_
            refine sf_iconst sf_c1 (fun z43 ez43 => ?_)
            refine sf_ireturn rfl rfl ?_
            exact hR _ _ hI0 hs0 (by omega) (by omega) (by first | (refine Or.inl ⟨by omega, ?_⟩; omega) | (refine Or.inr (Or.inl ⟨by omega, ?_⟩); omega) | (refine Or.inr (Or.inr ⟨by omega, ?_⟩); omega))
          · refine sf_iload rfl ?_
            refine sf_iload rfl ?_
            refine sf_f2_gt (fun h44 => ?_) (fun h44 => ?_)
            · refine sf_iconst sf_c0 (fun z45 ez45 => ?_)
              refine sf_zreturn (by omega) rfl rfl ?_
              refine sf_f1_eq (fun h46 => ?_) (fun h46 => absurd h46 (by omega))
              refine sf_iconst sf_c0 (fun z47 ez47 => ?_)
              refine sf_call1 rfl rfl rfl ?_
              refine sf_sp (L := [(0, .inl (.int z47))]) rfl rfl ?_
              refine sf_iload rfl ?_
              refine sf_f1_eq (fun h48 => ?_) (fun h48 => absurd h48 (by omega))
              refine sf_throw rfl rfl ?_
              refine sf_xout rfl rfl ?_
              refine sf_xhh (L' := [(0, .inl (.ref 0)), (1, .inl (.int a_l1)), (2, .inl (.int a_l2)), (3, .inl (.int a_l3)), (4, .inl (.int a_l4)), (5, .inl (.int a_l5)), (6, .inl (.int a_l6)), (7, .inl (.ref 130))]) rfl rfl ?_
              refine sf_iconst sf_c1 (fun z49 ez49 => ?_)
              refine sf_ireturn rfl rfl ?_
              exact hR _ _ hI0 hs0 (by omega) (by omega) (by first | (refine Or.inl ⟨by omega, ?_⟩; omega) | (refine Or.inr (Or.inl ⟨by omega, ?_⟩); omega) | (refine Or.inr (Or.inr ⟨by omega, ?_⟩); omega))
            · refine sf_iconst sf_c1 (fun z50 ez50 => ?_)
              refine sf_zreturn (by omega) rfl rfl ?_
              refine sf_f1_eq (fun h51 => absurd h51 (by omega)) (fun h51 => ?_)
              refine sf_iload rfl ?_
              refine sf_iconst sf_c0 (fun z52 ez52 => ?_)
              refine sf_iconst sf_c10000 (fun z53 ez53 => ?_)
              refine sf_call3 rfl rfl rfl ?_
              refine sf_sp (L := [(0, .inl (.int a_l4)), (1, .inl (.int z52)), (2, .inl (.int z53))]) rfl rfl ?_
              refine sf_iload rfl ?_
              refine sf_iload rfl ?_
              refine sf_f2_gt (fun h54 => ?_) (fun h54 => ?_)
              · refine sf_iconst sf_c0 (fun z55 ez55 => ?_)
                refine sf_zreturn (by omega) rfl rfl ?_
                refine sf_f1_eq (fun h56 => ?_) (fun h56 => absurd h56 (by omega))
                refine sf_iconst sf_c0 (fun z57 ez57 => ?_)
                refine sf_call1 rfl rfl rfl ?_
                refine sf_sp (L := [(0, .inl (.int z57))]) rfl rfl ?_
                refine sf_iload rfl ?_
                refine sf_f1_eq (fun h58 => ?_) (fun h58 => absurd h58 (by omega))
                refine sf_throw rfl rfl ?_
                refine sf_xout rfl rfl ?_
                refine sf_xhh (L' := [(0, .inl (.ref 0)), (1, .inl (.int a_l1)), (2, .inl (.int a_l2)), (3, .inl (.int a_l3)), (4, .inl (.int a_l4)), (5, .inl (.int a_l5)), (6, .inl (.int a_l6)), (7, .inl (.ref 130))]) rfl rfl ?_
                refine sf_iconst sf_c1 (fun z59 ez59 => ?_)
                refine sf_ireturn rfl rfl ?_
                exact hR _ _ hI0 hs0 (by omega) (by omega) (by first | (refine Or.inl ⟨by omega, ?_⟩; omega) | (refine Or.inr (Or.inl ⟨by omega, ?_⟩); omega) | (refine Or.inr (Or.inr ⟨by omega, ?_⟩); omega))
              · refine sf_iload rfl ?_
                refine sf_iload rfl ?_
                refine sf_f2_gt (fun h60 => ?_) (fun h60 => ?_)
                · refine sf_iconst sf_c0 (fun z61 ez61 => ?_)
                  refine sf_zreturn (by omega) rfl rfl ?_
                  refine sf_f1_eq (fun h62 => ?_) (fun h62 => absurd h62 (by omega))
                  refine sf_iconst sf_c0 (fun z63 ez63 => ?_)
                  refine sf_call1 rfl rfl rfl ?_
                  refine sf_sp (L := [(0, .inl (.int z63))]) rfl rfl ?_
                  refine sf_iload rfl ?_
                  refine sf_f1_eq (fun h64 => ?_) (fun h64 => absurd h64 (by omega))
                  refine sf_throw rfl rfl ?_
                  refine sf_xout rfl rfl ?_
                  refine sf_xhh (L' := [(0, .inl (.ref 0)), (1, .inl (.int a_l1)), (2, .inl (.int a_l2)), (3, .inl (.int a_l3)), (4, .inl (.int a_l4)), (5, .inl (.int a_l5)), (6, .inl (.int a_l6)), (7, .inl (.ref 130))]) rfl rfl ?_
                  refine sf_iconst sf_c1 (fun z65 ez65 => ?_)
                  refine sf_ireturn rfl rfl ?_
                  exact hR _ _ hI0 hs0 (by omega) (by omega) (by first | (refine Or.inl ⟨by omega, ?_⟩; omega) | (refine Or.inr (Or.inl ⟨by omega, ?_⟩); omega) | (refine Or.inr (Or.inr ⟨by omega, ?_⟩); omega))
                · refine sf_iconst sf_c1 (fun z66 ez66 => ?_)
                  refine sf_zreturn (by omega) rfl rfl ?_
                  refine sf_f1_eq (fun h67 => absurd h67 (by omega)) (fun h67 => ?_)
                  refine sf_iconst sf_c1 (fun z68 ez68 => ?_)
                  refine sf_call1 rfl rfl rfl ?_
                  refine sf_sp (L := [(0, .inl (.int z68))]) rfl rfl ?_
                  refine sf_iload rfl ?_
                  refine sf_f1_eq (fun h69 => absurd h69 (by omega)) (fun h69 => ?_)
                  refine sf_vreturn rfl rfl ?_
                  refine sf_iload rfl ?_
                  refine sf_call1 rfl rfl rfl ?_
                  refine sf_sp (L := [(0, .inl (.int a_l5))]) rfl rfl ?_
                  refine sf_iload rfl ?_
                  refine sf_iconst sf_c10000 (fun z70 ez70 => ?_)
                  refine sf_call2 rfl rfl rfl ?_
                  refine sf_sp (L := [(0, .inl (.int a_l5)), (1, .inl (.int z70))]) rfl rfl ?_
                  refine sf_iconst sf_c0 (fun z71 ez71 => ?_)
                  refine sf_iload rfl ?_
                  refine sf_f2_gt (fun h72 => ?_) (fun h72 => ?_)
                  · refine sf_iconst sf_c0 (fun z73 ez73 => ?_)
                    refine sf_zreturn (by omega) rfl rfl ?_
                    refine sf_zreturn (by omega) rfl rfl ?_
                    refine sf_f1_eq (fun h74 => ?_) (fun h74 => absurd h74 (by omega))
                    refine sf_iconst sf_c0 (fun z75 ez75 => ?_)
                    refine sf_call1 rfl rfl rfl ?_
                    refine sf_sp (L := [(0, .inl (.int z75))]) rfl rfl ?_
                    refine sf_iload rfl ?_
                    refine sf_f1_eq (fun h76 => ?_) (fun h76 => absurd h76 (by omega))
                    refine sf_throw rfl rfl ?_
                    refine sf_xout rfl rfl ?_
                    refine sf_xhh (L' := [(0, .inl (.ref 0)), (1, .inl (.int a_l1)), (2, .inl (.int a_l2)), (3, .inl (.int a_l3)), (4, .inl (.int a_l4)), (5, .inl (.int a_l5)), (6, .inl (.int a_l6)), (7, .inl (.ref 130))]) rfl rfl ?_
                    refine sf_iconst sf_c1 (fun z77 ez77 => ?_)
                    refine sf_ireturn rfl rfl ?_
                    exact hR _ _ hI0 hs0 (by omega) (by omega) (by first | (refine Or.inl ⟨by omega, ?_⟩; omega) | (refine Or.inr (Or.inl ⟨by omega, ?_⟩); omega) | (refine Or.inr (Or.inr ⟨by omega, ?_⟩); omega))
                  · refine sf_iload rfl ?_
                    refine sf_iload rfl ?_
                    refine sf_f2_ge (fun h78 => ?_) (fun h78 => ?_)
                    · refine sf_iconst sf_c0 (fun z79 ez79 => ?_)
                      refine sf_zreturn (by omega) rfl rfl ?_
                      refine sf_zreturn (by omega) rfl rfl ?_
                      refine sf_f1_eq (fun h80 => ?_) (fun h80 => absurd h80 (by omega))
                      refine sf_iconst sf_c0 (fun z81 ez81 => ?_)
                      refine sf_call1 rfl rfl rfl ?_
                      refine sf_sp (L := [(0, .inl (.int z81))]) rfl rfl ?_
                      refine sf_iload rfl ?_
                      refine sf_f1_eq (fun h82 => ?_) (fun h82 => absurd h82 (by omega))
                      refine sf_throw rfl rfl ?_
                      refine sf_xout rfl rfl ?_
                      refine sf_xhh (L' := [(0, .inl (.ref 0)), (1, .inl (.int a_l1)), (2, .inl (.int a_l2)), (3, .inl (.int a_l3)), (4, .inl (.int a_l4)), (5, .inl (.int a_l5)), (6, .inl (.int a_l6)), (7, .inl (.ref 130))]) rfl rfl ?_
                      refine sf_iconst sf_c1 (fun z83 ez83 => ?_)
                      refine sf_ireturn rfl rfl ?_
                      exact hR _ _ hI0 hs0 (by omega) (by omega) (by first | (refine Or.inl ⟨by omega, ?_⟩; omega) | (refine Or.inr (Or.inl ⟨by omega, ?_⟩); omega) | (refine Or.inr (Or.inr ⟨by omega, ?_⟩); omega))
                    · refine sf_iconst sf_c1 (fun z84 ez84 => ?_)
                      refine sf_zreturn (by omega) rfl rfl ?_
                      refine sf_zreturn (by omega) rfl rfl ?_
                      refine sf_f1_eq (fun h85 => absurd h85 (by omega)) (fun h85 => ?_)
                      refine sf_iload rfl ?_
                      refine sf_call1 rfl rfl rfl ?_
                      refine sf_sp (L := [(0, .inl (.int a_l6))]) rfl rfl ?_
                      refine sf_iload rfl ?_
                      refine sf_iconst sf_c10000 (fun z86 ez86 => ?_)
                      refine sf_call2 rfl rfl rfl ?_
                      refine sf_sp (L := [(0, .inl (.int a_l6)), (1, .inl (.int z86))]) rfl rfl ?_
                      refine sf_iconst sf_c0 (fun z87 ez87 => ?_)
                      refine sf_iload rfl ?_
                      refine sf_f2_gt (fun h88 => ?_) (fun h88 => ?_)
                      · refine sf_iconst sf_c0 (fun z89 ez89 => ?_)
                        refine sf_zreturn (by omega) rfl rfl ?_
                        refine sf_zreturn (by omega) rfl rfl ?_
                        refine sf_f1_eq (fun h90 => ?_) (fun h90 => absurd h90 (by omega))
                        refine sf_iconst sf_c0 (fun z91 ez91 => ?_)
                        refine sf_call1 rfl rfl rfl ?_
                        refine sf_sp (L := [(0, .inl (.int z91))]) rfl rfl ?_
                        refine sf_iload rfl ?_
                        refine sf_f1_eq (fun h92 => ?_) (fun h92 => absurd h92 (by omega))
                        refine sf_throw rfl rfl ?_
                        refine sf_xout rfl rfl ?_
                        refine sf_xhh (L' := [(0, .inl (.ref 0)), (1, .inl (.int a_l1)), (2, .inl (.int a_l2)), (3, .inl (.int a_l3)), (4, .inl (.int a_l4)), (5, .inl (.int a_l5)), (6, .inl (.int a_l6)), (7, .inl (.ref 130))]) rfl rfl ?_
                        refine sf_iconst sf_c1 (fun z93 ez93 => ?_)
                        refine sf_ireturn rfl rfl ?_
                        exact hR _ _ hI0 hs0 (by omega) (by omega) (by first | (refine Or.inl ⟨by omega, ?_⟩; omega) | (refine Or.inr (Or.inl ⟨by omega, ?_⟩); omega) | (refine Or.inr (Or.inr ⟨by omega, ?_⟩); omega))
                      · refine sf_iload rfl ?_
                        refine sf_iload rfl ?_
                        refine sf_f2_ge (fun h94 => ?_) (fun h94 => ?_)
                        · refine sf_iconst sf_c0 (fun z95 ez95 => ?_)
                          refine sf_zreturn (by omega) rfl rfl ?_
                          refine sf_zreturn (by omega) rfl rfl ?_
                          refine sf_f1_eq (fun h96 => ?_) (fun h96 => absurd h96 (by omega))
                          refine sf_iconst sf_c0 (fun z97 ez97 => ?_)
                          refine sf_call1 rfl rfl rfl ?_
                          refine sf_sp (L := [(0, .inl (.int z97))]) rfl rfl ?_
                          refine sf_iload rfl ?_
                          refine sf_f1_eq (fun h98 => ?_) (fun h98 => absurd h98 (by omega))
                          refine sf_throw rfl rfl ?_
                          refine sf_xout rfl rfl ?_
                          refine sf_xhh (L' := [(0, .inl (.ref 0)), (1, .inl (.int a_l1)), (2, .inl (.int a_l2)), (3, .inl (.int a_l3)), (4, .inl (.int a_l4)), (5, .inl (.int a_l5)), (6, .inl (.int a_l6)), (7, .inl (.ref 130))]) rfl rfl ?_
                          refine sf_iconst sf_c1 (fun z99 ez99 => ?_)
                          refine sf_ireturn rfl rfl ?_
                          exact hR _ _ hI0 hs0 (by omega) (by omega) (by first | (refine Or.inl ⟨by omega, ?_⟩; omega) | (refine Or.inr (Or.inl ⟨by omega, ?_⟩); omega) | (refine Or.inr (Or.inr ⟨by omega, ?_⟩); omega))
                        · refine sf_iconst sf_c1 (fun z100 ez100 => ?_)
                          refine sf_zreturn (by omega) rfl rfl ?_
                          refine sf_zreturn (by omega) rfl rfl ?_
                          refine sf_f1_eq (fun h101 => absurd h101 (by omega)) (fun h101 => ?_)
                          refine sf_iload rfl ?_
                          refine sf_iload rfl ?_
                          refine sf_f2_gt (fun h102 => ?_) (fun h102 => ?_)
                          · refine sf_iconst sf_c0 (fun z103 ez103 => ?_)
                            refine sf_call1 rfl rfl rfl ?_
                            refine sf_sp (L := [(0, .inl (.int z103))]) rfl rfl ?_
                            refine sf_iload rfl ?_
                            refine sf_f1_eq (fun h104 => ?_) (fun h104 => absurd h104 (by omega))
                            refine sf_throw rfl rfl ?_
                            refine sf_xout rfl rfl ?_
                            refine sf_xhh (L' := [(0, .inl (.ref 0)), (1, .inl (.int a_l1)), (2, .inl (.int a_l2)), (3, .inl (.int a_l3)), (4, .inl (.int a_l4)), (5, .inl (.int a_l5)), (6, .inl (.int a_l6)), (7, .inl (.ref 130))]) rfl rfl ?_
                            refine sf_iconst sf_c1 (fun z105 ez105 => ?_)
                            refine sf_ireturn rfl rfl ?_
                            exact hR _ _ hI0 hs0 (by omega) (by omega) (by first | (refine Or.inl ⟨by omega, ?_⟩; omega) | (refine Or.inr (Or.inl ⟨by omega, ?_⟩); omega) | (refine Or.inr (Or.inr ⟨by omega, ?_⟩); omega))
                          · refine sf_iconst sf_c1 (fun z106 ez106 => ?_)
                            refine sf_call1 rfl rfl rfl ?_
                            refine sf_sp (L := [(0, .inl (.int z106))]) rfl rfl ?_
                            refine sf_iload rfl ?_
                            refine sf_f1_eq (fun h107 => absurd h107 (by omega)) (fun h107 => ?_)
                            refine sf_vreturn rfl rfl ?_
                            refine sf_aload rfl ?_
                            refine sf_getr hI0 rfl rfl ?_
                            refine sf_geti hI0 rfl rfl (fun v108 lv108 uv108 ev108 => ?_)
                            refine sf_iconst sf_c8 (fun z109 ez109 => ?_)
                            refine sf_f2_ge (fun h110 => ?_) (fun h110 => ?_)
                            · refine sf_iconst sf_c0 (fun z111 ez111 => ?_)
                              refine sf_call1 rfl rfl rfl ?_
                              refine sf_sp (L := [(0, .inl (.int z111))]) rfl rfl ?_
                              refine sf_iload rfl ?_
                              refine sf_f1_eq (fun h112 => ?_) (fun h112 => absurd h112 (by omega))
                              refine sf_throw rfl rfl ?_
                              refine sf_xout rfl rfl ?_
                              refine sf_xhm rfl ?_
                              refine sf_xhh (L' := [(0, .inl (.ref 0)), (1, .inl (.int a_l1)), (2, .inl (.int a_l2)), (3, .inl (.int a_l3)), (4, .inl (.int a_l4)), (5, .inl (.int a_l5)), (6, .inl (.int a_l6)), (7, .inl (.ref 130))]) rfl rfl ?_
                              refine sf_iconst sf_c2 (fun z113 ez113 => ?_)
                              refine sf_ireturn rfl rfl ?_
                              exact hR _ _ hI0 hs0 (by omega) (by omega) (by first | (refine Or.inl ⟨by omega, ?_⟩; omega) | (refine Or.inr (Or.inl ⟨by omega, ?_⟩); omega) | (refine Or.inr (Or.inr ⟨by omega, ?_⟩); omega))
                            · refine sf_iconst sf_c1 (fun z114 ez114 => ?_)
                              refine sf_call1 rfl rfl rfl ?_
                              refine sf_sp (L := [(0, .inl (.int z114))]) rfl rfl ?_
                              refine sf_iload rfl ?_
                              refine sf_f1_eq (fun h115 => absurd h115 (by omega)) (fun h115 => ?_)
                              refine sf_vreturn rfl rfl ?_
                              refine sf_aload rfl ?_
                              refine sf_getr hI0 rfl rfl ?_
                              refine sf_iload rfl ?_
                              refine sf_iload rfl ?_
                              refine sf_iload rfl ?_
                              refine sf_iload rfl ?_
                              refine sf_iload rfl ?_
                              refine sf_iload rfl ?_
                              refine sf_call7 rfl rfl rfl ?_
                              refine sf_rv hI0 rfl ?_
                              refine sf_sp (L := [(0, .inl (.ref 21)), (1, .inl (.int a_l1)), (2, .inl (.int a_l2)), (3, .inl (.int a_l3)), (4, .inl (.int a_l4)), (5, .inl (.int a_l5)), (6, .inl (.int a_l6))]) rfl rfl ?_
                              refine sf_aload rfl ?_
                              refine sf_geti hI0 rfl rfl (fun v116 lv116 uv116 ev116 => ?_)
                              refine sf_istore (L' := [(0, .inl (.ref 21)), (1, .inl (.int a_l1)), (2, .inl (.int a_l2)), (3, .inl (.int a_l3)), (4, .inl (.int a_l4)), (5, .inl (.int a_l5)), (6, .inl (.int a_l6))]) rfl ?_
                              refine sf_aload rfl ?_
                              refine sf_getr hI0 rfl rfl ?_
                              refine sf_iload rfl ?_
                              refine sf_iload rfl ?_
                              refine sf_iast hI0 hs0 rfl (by omega) (sf_bd _) rfl rfl (fun w117 Iw117 sw117 kw117 uw117 => ?_)
                              have c118 := sf_mf kw117 (p := 21) (j := 1) rfl
                              clear kw117 uw117
                              refine sf_aload rfl ?_
                              refine sf_getr Iw117 rfl rfl ?_
                              refine sf_iload rfl ?_
                              refine sf_iload rfl ?_
                              refine sf_iast Iw117 sw117 rfl (by omega) (sf_bd _) rfl rfl (fun w119 Iw119 sw119 kw119 uw119 => ?_)
                              have c120 := sf_mf kw119 (p := 21) (j := 1) rfl
                              clear kw119 uw119
                              refine sf_aload rfl ?_
                              refine sf_getr Iw119 rfl rfl ?_
                              refine sf_iload rfl ?_
                              refine sf_iload rfl ?_
                              refine sf_iast Iw119 sw119 rfl (by omega) (sf_bd _) rfl rfl (fun w121 Iw121 sw121 kw121 uw121 => ?_)
                              have c122 := sf_mf kw121 (p := 21) (j := 1) rfl
                              clear kw121 uw121
                              refine sf_aload rfl ?_
                              refine sf_getr Iw121 rfl rfl ?_
                              refine sf_iload rfl ?_
                              refine sf_iload rfl ?_
                              refine sf_iast Iw121 sw121 rfl (by omega) (sf_bd _) rfl rfl (fun w123 Iw123 sw123 kw123 uw123 => ?_)
                              have c124 := sf_mf kw123 (p := 21) (j := 1) rfl
                              clear kw123 uw123
                              refine sf_aload rfl ?_
                              refine sf_getr Iw123 rfl rfl ?_
                              refine sf_iload rfl ?_
                              refine sf_iload rfl ?_
                              refine sf_iast Iw123 sw123 rfl (by omega) (sf_bd _) rfl rfl (fun w125 Iw125 sw125 kw125 uw125 => ?_)
                              have c126 := sf_mf kw125 (p := 21) (j := 1) rfl
                              clear kw125 uw125
                              refine sf_aload rfl ?_
                              refine sf_getr Iw125 rfl rfl ?_
                              refine sf_iload rfl ?_
                              refine sf_iload rfl ?_
                              refine sf_iast Iw125 sw125 rfl (by omega) (sf_bd _) rfl rfl (fun w127 Iw127 sw127 kw127 uw127 => ?_)
                              have c128 := sf_mf kw127 (p := 21) (j := 1) rfl
                              clear kw127 uw127
                              refine sf_aload rfl ?_
                              refine sf_dup rfl ?_
                              refine sf_geti Iw127 rfl rfl (fun v129 lv129 uv129 ev129 => ?_)
                              rw [c128, c126, c124, c122, c120, c118] at ev129
                              refine sf_iconst sf_c1 (fun z130 ez130 => ?_)
                              refine sf_iadd (by omega) (fun v131 ev131 => ?_)
                              refine sf_puti Iw127 sw127 rfl rfl (by omega) rfl rfl rfl (fun w132 Iw132 sw132 kw132 uw132 => ?_)
                              clear kw132
                              refine sf_iload rfl ?_
                              refine sf_ireturn rfl rfl ?_
                              refine sf_ireturn rfl rfl ?_
                              refine sf_i2l (fun v133 ev133 => ?_)
                              refine sf_last Iw132 sw132 rfl (by omega) rfl rfl (fun w134 Iw134 sw134 kw134 uw134 => ?_)
                              have c135 := sf_mf kw134 (p := 21) (j := 1) rfl
                              clear kw134
                              have go : (sf_l w134 130 0).toInt = v133.toInt := by rw [uw134, show z1.toInt.toNat = 0 by omega]; unfold vp_updL; rw [if_pos rfl]
                              refine sf_iconst sf_c0 (fun z136 ez136 => ?_)
                              refine sf_ireturn rfl rfl ?_
                              exact hR _ _ Iw134 sw134 (by omega) (by omega) (by rw [c135, uw132]; first | (refine Or.inl ⟨by omega, ?_⟩; omega) | (refine Or.inr (Or.inl ⟨by omega, ?_⟩); omega) | (refine Or.inr (Or.inr ⟨by omega, ?_⟩); omega))
def sm_W_quotaLeft_0_130 : List Nat := [130]
set_option maxRecDepth 100000 in
set_option maxHeartbeats 4000000 in
theorem sc_W_quotaLeft_0_130 {w0 : wq_W} (hI0 : sf_I w0) {rt : Option wq_V → wq_W → Prop} {xt : Nat → wq_W → Prop} {a_l1 : Int32}  (hR : ∀ (r : Int32) (w : wq_W), sf_I w → sf_m sm_W_quotaLeft_0_130 w0 w → 0 ≤ r.toInt → r.toInt ≤ 1 → rt (some (.inl (.int r))) w) : ks_W_quotaLeft [.inl (.ref 0), .inl (.int a_l1), .inl (.ref 130)] w0 rt xt := by
  have hs0 : sf_m sm_W_quotaLeft_0_130 w0 w0 := sf_m0
  refine sf_sp (L := [(0, .inl (.ref 0)), (1, .inl (.int a_l1)), (2, .inl (.ref 130))]) rfl rfl ?_
  refine sf_aload rfl ?_
  refine sf_iconst sf_c0 (fun z1 ez1 => ?_)
  refine sf_aload rfl ?_
  refine sf_iload rfl ?_
  refine sf_call2 rfl rfl rfl ?_
  refine sf_rv hI0 rfl ?_
  refine sf_sp (L := [(0, .inl (.ref 0)), (1, .inl (.int a_l1))]) rfl rfl ?_
  refine sf_iload rfl ?_
  refine sf_aload rfl ?_
  refine sf_getr hI0 rfl rfl ?_
  refine sf_geti hI0 rfl rfl (fun v2 lv2 uv2 ev2 => ?_)
  refine sf_call2 rfl rfl rfl ?_
  refine sf_sp (L := [(0, .inl (.int a_l1)), (1, .inl (.int v2))]) rfl rfl ?_
  refine sf_iconst sf_c0 (fun z3 ez3 => ?_)
  refine sf_iload rfl ?_
  refine sf_f2_gt (fun h4 => ?_) (fun h4 => ?_)
  · refine sf_iconst sf_c0 (fun z5 ez5 => ?_)
    refine sf_zreturn (by omega) rfl rfl ?_
    refine sf_call1 rfl rfl rfl ?_
    refine sf_sp (L := [(0, .inl (.int z5))]) rfl rfl ?_
    refine sf_iload rfl ?_
    refine sf_f1_eq (fun h6 => ?_) (fun h6 => absurd h6 (by omega))
    refine sf_throw rfl rfl ?_
    refine sf_xout rfl rfl ?_
    refine sf_xhh (L' := [(0, .inl (.ref 0)), (1, .inl (.int a_l1)), (2, .inl (.ref 130))]) rfl rfl ?_
    refine sf_iconst sf_c1 (fun z7 ez7 => ?_)
    refine sf_ireturn rfl rfl ?_
    exact hR _ _ hI0 hs0 (by omega) (by omega) 
  · refine sf_iload rfl ?_
    refine sf_iload rfl ?_
    refine sf_f2_ge (fun h8 => ?_) (fun h8 => ?_)
    · refine sf_iconst sf_c0 (fun z9 ez9 => ?_)
      refine sf_zreturn (by omega) rfl rfl ?_
      refine sf_call1 rfl rfl rfl ?_
      refine sf_sp (L := [(0, .inl (.int z9))]) rfl rfl ?_
      refine sf_iload rfl ?_
      refine sf_f1_eq (fun h10 => ?_) (fun h10 => absurd h10 (by omega))
      refine sf_throw rfl rfl ?_
      refine sf_xout rfl rfl ?_
      refine sf_xhh (L' := [(0, .inl (.ref 0)), (1, .inl (.int a_l1)), (2, .inl (.ref 130))]) rfl rfl ?_
      refine sf_iconst sf_c1 (fun z11 ez11 => ?_)
      refine sf_ireturn rfl rfl ?_
      exact hR _ _ hI0 hs0 (by omega) (by omega) 
    · refine sf_iconst sf_c1 (fun z12 ez12 => ?_)
      refine sf_zreturn (by omega) rfl rfl ?_
      refine sf_call1 rfl rfl rfl ?_
      refine sf_sp (L := [(0, .inl (.int z12))]) rfl rfl ?_
      refine sf_iload rfl ?_
      refine sf_f1_eq (fun h13 => absurd h13 (by omega)) (fun h13 => ?_)
      refine sf_vreturn rfl rfl ?_
      refine sf_aload rfl ?_
      refine sf_getr hI0 rfl rfl ?_
      refine sf_getr hI0 rfl rfl ?_
      refine sf_iload rfl ?_
      refine sf_iald hI0 rfl (by omega) (fun v14 lv14 uv14 ev14 => ?_)
      clear lv14 uv14
      clear ev14
      refine sf_ireturn rfl rfl ?_
      refine sf_i2lb (fun v15 ev15 lv15 uv15 => ?_)
      refine sf_last hI0 hs0 rfl (by omega) rfl rfl (fun w16 Iw16 sw16 kw16 uw16 => ?_)
      clear kw16 uw16
      refine sf_iconst sf_c0 (fun z17 ez17 => ?_)
      refine sf_ireturn rfl rfl ?_
      exact hR _ _ Iw16 sw16 (by omega) (by omega) 
def sm_W_part_0_130 : List Nat := [30, 31, 32, 33, 34, 130]
set_option maxRecDepth 100000 in
set_option maxHeartbeats 4000000 in
theorem sc_W_part_0_130 {w0 : wq_W} (hI0 : sf_I w0) {rt : Option wq_V → wq_W → Prop} {xt : Nat → wq_W → Prop} {a_l1 : Int32} {a_l2 : Int32} {a_l3 : Int32} {a_l4 : Int32}  (hR : ∀ (r : Int32) (w : wq_W), sf_I w → sf_m sm_W_part_0_130 w0 w → 0 ≤ r.toInt → r.toInt ≤ 2 → rt (some (.inl (.int r))) w) : ks_W_part [.inl (.ref 0), .inl (.int a_l1), .inl (.int a_l2), .inl (.int a_l3), .inl (.int a_l4), .inl (.ref 130)] w0 rt xt := by
  have hs0 : sf_m sm_W_part_0_130 w0 w0 := sf_m0
  refine sf_sp (L := [(0, .inl (.ref 0)), (1, .inl (.int a_l1)), (2, .inl (.int a_l2)), (3, .inl (.int a_l3)), (4, .inl (.int a_l4)), (5, .inl (.ref 130))]) rfl rfl ?_
  refine sf_aload rfl ?_
  refine sf_iconst sf_c0 (fun z1 ez1 => ?_)
  refine sf_aload rfl ?_
  refine sf_iload rfl ?_
  refine sf_iload rfl ?_
  refine sf_iload rfl ?_
  refine sf_iload rfl ?_
  refine sf_call5 rfl rfl rfl ?_
  refine sf_rv hI0 rfl ?_
  refine sf_sp (L := [(0, .inl (.ref 0)), (1, .inl (.int a_l1)), (2, .inl (.int a_l2)), (3, .inl (.int a_l3)), (4, .inl (.int a_l4))]) rfl rfl ?_
  refine sf_iload rfl ?_
  refine sf_call1 rfl rfl rfl ?_
  refine sf_sp (L := [(0, .inl (.int a_l1))]) rfl rfl ?_
  refine sf_iload rfl ?_
  refine sf_iconst sf_c16 (fun z2 ez2 => ?_)
  refine sf_call2 rfl rfl rfl ?_
  refine sf_sp (L := [(0, .inl (.int a_l1)), (1, .inl (.int z2))]) rfl rfl ?_
  refine sf_iconst sf_c0 (fun z3 ez3 => ?_)
  refine sf_iload rfl ?_
  refine sf_f2_gt (fun h4 => ?_) (fun h4 => ?_)
  · refine sf_iconst sf_c0 (fun z5 ez5 => ?_)
    refine sf_zreturn (by omega) rfl rfl ?_
    refine sf_zreturn (by omega) rfl rfl ?_
    refine sf_f1_eq (fun h6 => ?_) (fun h6 => absurd h6 (by omega))
    refine sf_iconst sf_c0 (fun z7 ez7 => ?_)
    refine sf_call1 rfl rfl rfl ?_
    refine sf_sp (L := [(0, .inl (.int z7))]) rfl rfl ?_
    refine sf_iload rfl ?_
    refine sf_f1_eq (fun h8 => ?_) (fun h8 => absurd h8 (by omega))
    refine sf_throw rfl rfl ?_
    refine sf_xout rfl rfl ?_
    refine sf_xhh (L' := [(0, .inl (.ref 0)), (1, .inl (.int a_l1)), (2, .inl (.int a_l2)), (3, .inl (.int a_l3)), (4, .inl (.int a_l4)), (5, .inl (.ref 130))]) rfl rfl ?_
    refine sf_iconst sf_c1 (fun z9 ez9 => ?_)
    refine sf_ireturn rfl rfl ?_
    exact hR _ _ hI0 hs0 (by omega) (by omega) 
  · refine sf_iload rfl ?_
    refine sf_iload rfl ?_
    refine sf_f2_ge (fun h10 => ?_) (fun h10 => ?_)
    · refine sf_iconst sf_c0 (fun z11 ez11 => ?_)
      refine sf_zreturn (by omega) rfl rfl ?_
      refine sf_zreturn (by omega) rfl rfl ?_
      refine sf_f1_eq (fun h12 => ?_) (fun h12 => absurd h12 (by omega))
      refine sf_iconst sf_c0 (fun z13 ez13 => ?_)
      refine sf_call1 rfl rfl rfl ?_
      refine sf_sp (L := [(0, .inl (.int z13))]) rfl rfl ?_
      refine sf_iload rfl ?_
      refine sf_f1_eq (fun h14 => ?_) (fun h14 => absurd h14 (by omega))
      refine sf_throw rfl rfl ?_
      refine sf_xout rfl rfl ?_
      refine sf_xhh (L' := [(0, .inl (.ref 0)), (1, .inl (.int a_l1)), (2, .inl (.int a_l2)), (3, .inl (.int a_l3)), (4, .inl (.int a_l4)), (5, .inl (.ref 130))]) rfl rfl ?_
      refine sf_iconst sf_c1 (fun z15 ez15 => ?_)
      refine sf_ireturn rfl rfl ?_
      exact hR _ _ hI0 hs0 (by omega) (by omega) 
    · refine sf_iconst sf_c1 (fun z16 ez16 => ?_)
      refine sf_zreturn (by omega) rfl rfl ?_
      refine sf_zreturn (by omega) rfl rfl ?_
      refine sf_f1_eq (fun h17 => absurd h17 (by omega)) (fun h17 => ?_)
      refine sf_iload rfl ?_
      refine sf_call1 rfl rfl rfl ?_
      refine sf_sp (L := [(0, .inl (.int a_l2))]) rfl rfl ?_
      refine sf_iload rfl ?_
      refine sf_iconst sf_c16 (fun z18 ez18 => ?_)
      refine sf_call2 rfl rfl rfl ?_
      refine sf_sp (L := [(0, .inl (.int a_l2)), (1, .inl (.int z18))]) rfl rfl ?_
      refine sf_iconst sf_c0 (fun z19 ez19 => ?_)
      refine sf_iload rfl ?_
      refine sf_f2_gt (fun h20 => ?_) (fun h20 => ?_)
      · refine sf_iconst sf_c0 (fun z21 ez21 => ?_)
        refine sf_zreturn (by omega) rfl rfl ?_
        refine sf_zreturn (by omega) rfl rfl ?_
        refine sf_f1_eq (fun h22 => ?_) (fun h22 => absurd h22 (by omega))
        refine sf_iconst sf_c0 (fun z23 ez23 => ?_)
        refine sf_call1 rfl rfl rfl ?_
        refine sf_sp (L := [(0, .inl (.int z23))]) rfl rfl ?_
        refine sf_iload rfl ?_
        refine sf_f1_eq (fun h24 => ?_) (fun h24 => absurd h24 (by omega))
        refine sf_throw rfl rfl ?_
        refine sf_xout rfl rfl ?_
        refine sf_xhh (L' := [(0, .inl (.ref 0)), (1, .inl (.int a_l1)), (2, .inl (.int a_l2)), (3, .inl (.int a_l3)), (4, .inl (.int a_l4)), (5, .inl (.ref 130))]) rfl rfl ?_
        refine sf_iconst sf_c1 (fun z25 ez25 => ?_)
        refine sf_ireturn rfl rfl ?_
        exact hR _ _ hI0 hs0 (by omega) (by omega) 
      · refine sf_iload rfl ?_
        refine sf_iload rfl ?_
        refine sf_f2_ge (fun h26 => ?_) (fun h26 => ?_)
        · refine sf_iconst sf_c0 (fun z27 ez27 => ?_)
          refine sf_zreturn (by omega) rfl rfl ?_
          refine sf_zreturn (by omega) rfl rfl ?_
          refine sf_f1_eq (fun h28 => ?_) (fun h28 => absurd h28 (by omega))
          refine sf_iconst sf_c0 (fun z29 ez29 => ?_)
          refine sf_call1 rfl rfl rfl ?_
          refine sf_sp (L := [(0, .inl (.int z29))]) rfl rfl ?_
          refine sf_iload rfl ?_
          refine sf_f1_eq (fun h30 => ?_) (fun h30 => absurd h30 (by omega))
          refine sf_throw rfl rfl ?_
          refine sf_xout rfl rfl ?_
          refine sf_xhh (L' := [(0, .inl (.ref 0)), (1, .inl (.int a_l1)), (2, .inl (.int a_l2)), (3, .inl (.int a_l3)), (4, .inl (.int a_l4)), (5, .inl (.ref 130))]) rfl rfl ?_
          refine sf_iconst sf_c1 (fun z31 ez31 => ?_)
          refine sf_ireturn rfl rfl ?_
          exact hR _ _ hI0 hs0 (by omega) (by omega) 
        · refine sf_iconst sf_c1 (fun z32 ez32 => ?_)
          refine sf_zreturn (by omega) rfl rfl ?_
          refine sf_zreturn (by omega) rfl rfl ?_
          refine sf_f1_eq (fun h33 => absurd h33 (by omega)) (fun h33 => ?_)
          refine sf_iload rfl ?_
          refine sf_call1 rfl rfl rfl ?_
          refine sf_sp (L := [(0, .inl (.int a_l4))]) rfl rfl ?_
          refine sf_iload rfl ?_
          refine sf_iconst sf_c8 (fun z34 ez34 => ?_)
          refine sf_call2 rfl rfl rfl ?_
          refine sf_sp (L := [(0, .inl (.int a_l4)), (1, .inl (.int z34))]) rfl rfl ?_
          refine sf_iconst sf_c0 (fun z35 ez35 => ?_)
          refine sf_iload rfl ?_
          refine sf_f2_gt (fun h36 => ?_) (fun h36 => ?_)
          · refine sf_iconst sf_c0 (fun z37 ez37 => ?_)
            refine sf_zreturn (by omega) rfl rfl ?_
            refine sf_zreturn (by omega) rfl rfl ?_
            refine sf_f1_eq (fun h38 => ?_) (fun h38 => absurd h38 (by omega))
            refine sf_iconst sf_c0 (fun z39 ez39 => ?_)
            refine sf_call1 rfl rfl rfl ?_
            refine sf_sp (L := [(0, .inl (.int z39))]) rfl rfl ?_
            refine sf_iload rfl ?_
            refine sf_f1_eq (fun h40 => ?_) (fun h40 => absurd h40 (by omega))
            refine sf_throw rfl rfl ?_
            refine sf_xout rfl rfl ?_
            refine sf_xhh (L' := [(0, .inl (.ref 0)), (1, .inl (.int a_l1)), (2, .inl (.int a_l2)), (3, .inl (.int a_l3)), (4, .inl (.int a_l4)), (5, .inl (.ref 130))]) rfl rfl ?_
            refine sf_iconst sf_c1 (fun z41 ez41 => ?_)
            refine sf_ireturn rfl rfl ?_
            exact hR _ _ hI0 hs0 (by omega) (by omega) 
          · refine sf_iload rfl ?_
            refine sf_iload rfl ?_
            refine sf_f2_ge (fun h42 => ?_) (fun h42 => ?_)
            · refine sf_iconst sf_c0 (fun z43 ez43 => ?_)
              refine sf_zreturn (by omega) rfl rfl ?_
              refine sf_zreturn (by omega) rfl rfl ?_
              refine sf_f1_eq (fun h44 => ?_) (fun h44 => absurd h44 (by omega))
              refine sf_iconst sf_c0 (fun z45 ez45 => ?_)
              refine sf_call1 rfl rfl rfl ?_
              refine sf_sp (L := [(0, .inl (.int z45))]) rfl rfl ?_
              refine sf_iload rfl ?_
              refine sf_f1_eq (fun h46 => ?_) (fun h46 => absurd h46 (by omega))
              refine sf_throw rfl rfl ?_
              refine sf_xout rfl rfl ?_
              refine sf_xhh (L' := [(0, .inl (.ref 0)), (1, .inl (.int a_l1)), (2, .inl (.int a_l2)), (3, .inl (.int a_l3)), (4, .inl (.int a_l4)), (5, .inl (.ref 130))]) rfl rfl ?_
              refine sf_iconst sf_c1 (fun z47 ez47 => ?_)
              refine sf_ireturn rfl rfl ?_
              exact hR _ _ hI0 hs0 (by omega) (by omega) 
            · refine sf_iconst sf_c1 (fun z48 ez48 => ?_)
              refine sf_zreturn (by omega) rfl rfl ?_
              refine sf_zreturn (by omega) rfl rfl ?_
              refine sf_f1_eq (fun h49 => absurd h49 (by omega)) (fun h49 => ?_)
              refine sf_iconst sf_c1 (fun z50 ez50 => ?_)
              refine sf_call1 rfl rfl rfl ?_
              refine sf_sp (L := [(0, .inl (.int z50))]) rfl rfl ?_
              refine sf_iload rfl ?_
              refine sf_f1_eq (fun h51 => absurd h51 (by omega)) (fun h51 => ?_)
              refine sf_vreturn rfl rfl ?_
              refine sf_iload rfl ?_
              refine sf_iconst sf_c0 (fun z52 ez52 => ?_)
              refine sf_iconst sf_cl1000000 (fun z53 ez53 => ?_)
              refine sf_call3 rfl rfl rfl ?_
              refine sf_sp (L := [(0, .inl (.int a_l3)), (1, .inl (.int z52)), (2, .inl (.int z53))]) rfl rfl ?_
              refine sf_iload rfl ?_
              refine sf_iload rfl ?_
              refine sf_f2_gt (fun h54 => ?_) (fun h54 => ?_)
              · refine sf_iconst sf_c0 (fun z55 ez55 => ?_)
                refine sf_zreturn (by omega) rfl rfl ?_
                refine sf_call1 rfl rfl rfl ?_
                refine sf_sp (L := [(0, .inl (.int z55))]) rfl rfl ?_
                refine sf_iload rfl ?_
                refine sf_f1_eq (fun h56 => ?_) (fun h56 => absurd h56 (by omega))
                refine sf_throw rfl rfl ?_
                refine sf_xout rfl rfl ?_
                refine sf_xhh (L' := [(0, .inl (.ref 0)), (1, .inl (.int a_l1)), (2, .inl (.int a_l2)), (3, .inl (.int a_l3)), (4, .inl (.int a_l4)), (5, .inl (.ref 130))]) rfl rfl ?_
                refine sf_iconst sf_c1 (fun z57 ez57 => ?_)
                refine sf_ireturn rfl rfl ?_
                exact hR _ _ hI0 hs0 (by omega) (by omega) 
              · refine sf_iload rfl ?_
                refine sf_iload rfl ?_
                refine sf_f2_gt (fun h58 => ?_) (fun h58 => ?_)
                · refine sf_iconst sf_c0 (fun z59 ez59 => ?_)
                  refine sf_zreturn (by omega) rfl rfl ?_
                  refine sf_call1 rfl rfl rfl ?_
                  refine sf_sp (L := [(0, .inl (.int z59))]) rfl rfl ?_
                  refine sf_iload rfl ?_
                  refine sf_f1_eq (fun h60 => ?_) (fun h60 => absurd h60 (by omega))
                  refine sf_throw rfl rfl ?_
                  refine sf_xout rfl rfl ?_
                  refine sf_xhh (L' := [(0, .inl (.ref 0)), (1, .inl (.int a_l1)), (2, .inl (.int a_l2)), (3, .inl (.int a_l3)), (4, .inl (.int a_l4)), (5, .inl (.ref 130))]) rfl rfl ?_
                  refine sf_iconst sf_c1 (fun z61 ez61 => ?_)
                  refine sf_ireturn rfl rfl ?_
                  exact hR _ _ hI0 hs0 (by omega) (by omega) 
                · refine sf_iconst sf_c1 (fun z62 ez62 => ?_)
                  refine sf_zreturn (by omega) rfl rfl ?_
                  refine sf_call1 rfl rfl rfl ?_
                  refine sf_sp (L := [(0, .inl (.int z62))]) rfl rfl ?_
                  refine sf_iload rfl ?_
                  refine sf_f1_eq (fun h63 => absurd h63 (by omega)) (fun h63 => ?_)
                  refine sf_vreturn rfl rfl ?_
                  refine sf_aload rfl ?_
                  refine sf_getr hI0 rfl rfl ?_
                  refine sf_iload rfl ?_
                  refine sf_iload rfl ?_
                  refine sf_call3 rfl rfl rfl ?_
                  refine sf_rv hI0 rfl ?_
                  refine sf_sp (L := [(0, .inl (.ref 28)), (1, .inl (.int a_l1)), (2, .inl (.int a_l2))]) rfl rfl ?_
                  refine sf_iload rfl ?_
                  refine sf_iload rfl ?_
                  refine sf_f2_eq (fun h64 => ?_) (fun h64 => ?_)
                  · refine sf_iconst sf_c1 (fun z65 ez65 => ?_)
                    refine sf_zreturn (by omega) rfl rfl ?_
                    refine sf_f1_eq (fun h66 => absurd h66 (by omega)) (fun h66 => ?_)
                    refine sf_iconst sf_c0 (fun z67 ez67 => ?_)
                    refine sf_call1 rfl rfl rfl ?_
                    refine sf_sp (L := [(0, .inl (.int z67))]) rfl rfl ?_
                    refine sf_iload rfl ?_
                    refine sf_f1_eq (fun h68 => ?_) (fun h68 => absurd h68 (by omega))
                    refine sf_throw rfl rfl ?_
                    refine sf_xout rfl rfl ?_
                    refine sf_xhh (L' := [(0, .inl (.ref 0)), (1, .inl (.int a_l1)), (2, .inl (.int a_l2)), (3, .inl (.int a_l3)), (4, .inl (.int a_l4)), (5, .inl (.ref 130))]) rfl rfl ?_
                    refine sf_iconst sf_c1 (fun z69 ez69 => ?_)
                    refine sf_ireturn rfl rfl ?_
                    exact hR _ _ hI0 hs0 (by omega) (by omega) 
                  · refine sf_aload rfl ?_
                    refine sf_getr hI0 rfl rfl ?_
                    refine sf_iload rfl ?_
                    refine sf_iald hI0 rfl (by omega) (fun v70 lv70 uv70 ev70 => ?_)
                    clear lv70 uv70
                    clear ev70
                    refine sf_iload rfl ?_
                    refine sf_call2 rfl rfl rfl ?_
                    refine sf_sp (L := [(0, .inl (.int v70)), (1, .inl (.int a_l1))]) rfl rfl ?_
                    refine sf_iload rfl ?_
                    refine sf_iload rfl ?_
                    refine sf_i2 (fun v71 => ?_)
                    refine sf_iconst sf_c1 (fun z72 ez72 => ?_)
                    refine sf_iand (n := 1) (by omega) (by decide) (fun v73 lv73 uv73 => ?_)
                    refine sf_iconst sf_c1 (fun z74 ez74 => ?_)
                    refine sf_f2_eq (fun h75 => ?_) (fun h75 => ?_)
                    · refine sf_iconst sf_c1 (fun z76 ez76 => ?_)
                      refine sf_zreturn (by omega) rfl rfl ?_
                      refine sf_f1_eq (fun h77 => absurd h77 (by omega)) (fun h77 => ?_)
                      refine sf_iconst sf_c1 (fun z78 ez78 => ?_)
                      refine sf_zreturn (by omega) rfl rfl ?_
                      refine sf_f1_eq (fun h79 => absurd h79 (by omega)) (fun h79 => ?_)
                      refine sf_iconst sf_c0 (fun z80 ez80 => ?_)
                      refine sf_call1 rfl rfl rfl ?_
                      refine sf_sp (L := [(0, .inl (.int z80))]) rfl rfl ?_
                      refine sf_iload rfl ?_
                      refine sf_f1_eq (fun h81 => ?_) (fun h81 => absurd h81 (by omega))
                      refine sf_throw rfl rfl ?_
                      refine sf_xout rfl rfl ?_
                      refine sf_xhh (L' := [(0, .inl (.ref 0)), (1, .inl (.int a_l1)), (2, .inl (.int a_l2)), (3, .inl (.int a_l3)), (4, .inl (.int a_l4)), (5, .inl (.ref 130))]) rfl rfl ?_
                      refine sf_iconst sf_c1 (fun z82 ez82 => ?_)
                      refine sf_ireturn rfl rfl ?_
                      exact hR _ _ hI0 hs0 (by omega) (by omega) 
                    · refine sf_iconst sf_c0 (fun z83 ez83 => ?_)
                      refine sf_zreturn (by omega) rfl rfl ?_
                      refine sf_f1_eq (fun h84 => ?_) (fun h84 => absurd h84 (by omega))
                      refine sf_iconst sf_c0 (fun z85 ez85 => ?_)
                      refine sf_zreturn (by omega) rfl rfl ?_
                      refine sf_f1_eq (fun h86 => ?_) (fun h86 => absurd h86 (by omega))
                      refine sf_iconst sf_c1 (fun z87 ez87 => ?_)
                      refine sf_call1 rfl rfl rfl ?_
                      refine sf_sp (L := [(0, .inl (.int z87))]) rfl rfl ?_
                      refine sf_iload rfl ?_
                      refine sf_f1_eq (fun h88 => absurd h88 (by omega)) (fun h88 => ?_)
                      refine sf_vreturn rfl rfl ?_
                      refine sf_aload rfl ?_
                      refine sf_getr hI0 rfl rfl ?_
                      refine sf_getr hI0 rfl rfl ?_
                      refine sf_iload rfl ?_
                      refine sf_iald hI0 rfl (by omega) (fun v89 lv89 uv89 ev89 => ?_)
                      refine sf_iconst sf_c5 (fun z90 ez90 => ?_)
                      refine sf_f2_ge (fun h91 => ?_) (fun h91 => ?_)
                      · refine sf_iconst sf_c0 (fun z92 ez92 => ?_)
                        refine sf_call1 rfl rfl rfl ?_
                        refine sf_sp (L := [(0, .inl (.int z92))]) rfl rfl ?_
                        refine sf_iload rfl ?_
                        refine sf_f1_eq (fun h93 => ?_) (fun h93 => absurd h93 (by omega))
                        refine sf_throw rfl rfl ?_
                        refine sf_xout rfl rfl ?_
                        refine sf_xhm rfl ?_
                        refine sf_xhh (L' := [(0, .inl (.ref 0)), (1, .inl (.int a_l1)), (2, .inl (.int a_l2)), (3, .inl (.int a_l3)), (4, .inl (.int a_l4)), (5, .inl (.ref 130))]) rfl rfl ?_
                        refine sf_iconst sf_c2 (fun z94 ez94 => ?_)
                        refine sf_ireturn rfl rfl ?_
                        exact hR _ _ hI0 hs0 (by omega) (by omega) 
                      · refine sf_iconst sf_c1 (fun z95 ez95 => ?_)
                        refine sf_call1 rfl rfl rfl ?_
                        refine sf_sp (L := [(0, .inl (.int z95))]) rfl rfl ?_
                        refine sf_iload rfl ?_
                        refine sf_f1_eq (fun h96 => absurd h96 (by omega)) (fun h96 => ?_)
                        refine sf_vreturn rfl rfl ?_
                        refine sf_aload rfl ?_
                        refine sf_getr hI0 rfl rfl ?_
                        refine sf_iload rfl ?_
                        refine sf_iload rfl ?_
                        refine sf_iload rfl ?_
                        refine sf_iload rfl ?_
                        refine sf_call5 rfl rfl rfl ?_
                        refine sf_rv hI0 rfl ?_
                        refine sc_O_addPart hI0 (by omega) (by omega) (by omega) (by omega) (by omega) (fun v97 w98 Iw98 tw98 lv97 uv97 => ?_)
                        have s100 := sf_mt hs0 tw98 rfl
                        refine sf_ireturn rfl rfl ?_
                        refine sf_i2l (fun v101 ev101 => ?_)
                        refine sf_last Iw98 s100 rfl (by omega) rfl rfl (fun w102 Iw102 sw102 kw102 uw102 => ?_)
                        clear kw102 uw102
                        refine sf_iconst sf_c0 (fun z103 ez103 => ?_)
                        refine sf_ireturn rfl rfl ?_
                        exact hR _ _ Iw102 sw102 (by omega) (by omega) 
def sm_W_zone_0 : List Nat := [29]
set_option maxRecDepth 100000 in
set_option maxHeartbeats 4000000 in
theorem sc_W_zone_0 {w0 : wq_W} (hI0 : sf_I w0) {rt : Option wq_V → wq_W → Prop} {xt : Nat → wq_W → Prop} {a_l1 : Int32} {a_l2 : Int32}  (hR : ∀ (r : Int32) (w : wq_W), sf_I w → sf_m sm_W_zone_0 w0 w → 0 ≤ r.toInt → r.toInt ≤ 1 → (((r.toInt = 0 ∧ 0 ≤ a_l1.toInt ∧ a_l1.toInt < 4 ∧ 0 ≤ a_l2.toInt ∧ a_l2.toInt < 256) ∨ (r.toInt = 1 ∧ ¬ (0 ≤ a_l1.toInt ∧ a_l1.toInt < 4 ∧ 0 ≤ a_l2.toInt ∧ a_l2.toInt < 256)))) → rt (some (.inl (.int r))) w) : ks_W_zone [.inl (.ref 0), .inl (.int a_l1), .inl (.int a_l2)] w0 rt xt := by
  have hs0 : sf_m sm_W_zone_0 w0 w0 := sf_m0
  refine sf_sp (L := [(0, .inl (.ref 0)), (1, .inl (.int a_l1)), (2, .inl (.int a_l2))]) rfl rfl ?_
  refine sf_aload rfl ?_
  refine sf_iload rfl ?_
  refine sf_iload rfl ?_
  refine sf_call3 rfl rfl rfl ?_
  refine sf_rv hI0 rfl ?_
  refine sf_sp (L := [(0, .inl (.ref 0)), (1, .inl (.int a_l1)), (2, .inl (.int a_l2))]) rfl rfl ?_
  refine sf_iload rfl ?_
  refine sf_iconst sf_c4 (fun z1 ez1 => ?_)
  refine sf_call2 rfl rfl rfl ?_
  refine sf_sp (L := [(0, .inl (.int a_l1)), (1, .inl (.int z1))]) rfl rfl ?_
  refine sf_iconst sf_c0 (fun z2 ez2 => ?_)
  refine sf_iload rfl ?_
  refine sf_f2_gt (fun h3 => ?_) (fun h3 => ?_)
  · refine sf_iconst sf_c0 (fun z4 ez4 => ?_)
    refine sf_zreturn (by omega) rfl rfl ?_
    refine sf_call1 rfl rfl rfl ?_
    refine sf_sp (L := [(0, .inl (.int z4))]) rfl rfl ?_
    refine sf_iload rfl ?_
    refine sf_f1_eq (fun h5 => ?_) (fun h5 => absurd h5 (by omega))
    refine sf_throw rfl rfl ?_
    refine sf_xout rfl rfl ?_
    refine sf_xhh (L' := [(0, .inl (.ref 0)), (1, .inl (.int a_l1)), (2, .inl (.int a_l2))]) rfl rfl ?_
    refine sf_iconst sf_c1 (fun z6 ez6 => ?_)
    refine sf_ireturn rfl rfl ?_
    exact hR _ _ hI0 hs0 (by omega) (by omega) (by omega)
  · refine sf_iload rfl ?_
    refine sf_iload rfl ?_
    refine sf_f2_ge (fun h7 => ?_) (fun h7 => ?_)
    · refine sf_iconst sf_c0 (fun z8 ez8 => ?_)
      refine sf_zreturn (by omega) rfl rfl ?_
      refine sf_call1 rfl rfl rfl ?_
      refine sf_sp (L := [(0, .inl (.int z8))]) rfl rfl ?_
      refine sf_iload rfl ?_
      refine sf_f1_eq (fun h9 => ?_) (fun h9 => absurd h9 (by omega))
      refine sf_throw rfl rfl ?_
      refine sf_xout rfl rfl ?_
      refine sf_xhh (L' := [(0, .inl (.ref 0)), (1, .inl (.int a_l1)), (2, .inl (.int a_l2))]) rfl rfl ?_
      refine sf_iconst sf_c1 (fun z10 ez10 => ?_)
      refine sf_ireturn rfl rfl ?_
      exact hR _ _ hI0 hs0 (by omega) (by omega) (by omega)
    · refine sf_iconst sf_c1 (fun z11 ez11 => ?_)
      refine sf_zreturn (by omega) rfl rfl ?_
      refine sf_call1 rfl rfl rfl ?_
      refine sf_sp (L := [(0, .inl (.int z11))]) rfl rfl ?_
      refine sf_iload rfl ?_
      refine sf_f1_eq (fun h12 => absurd h12 (by omega)) (fun h12 => ?_)
      refine sf_vreturn rfl rfl ?_
      refine sf_iload rfl ?_
      refine sf_iconst sf_c256 (fun z13 ez13 => ?_)
      refine sf_call2 rfl rfl rfl ?_
      refine sf_sp (L := [(0, .inl (.int a_l2)), (1, .inl (.int z13))]) rfl rfl ?_
      refine sf_iconst sf_c0 (fun z14 ez14 => ?_)
      refine sf_iload rfl ?_
      refine sf_f2_gt (fun h15 => ?_) (fun h15 => ?_)
      · refine sf_iconst sf_c0 (fun z16 ez16 => ?_)
        refine sf_zreturn (by omega) rfl rfl ?_
        refine sf_call1 rfl rfl rfl ?_
        refine sf_sp (L := [(0, .inl (.int z16))]) rfl rfl ?_
        refine sf_iload rfl ?_
        refine sf_f1_eq (fun h17 => ?_) (fun h17 => absurd h17 (by omega))
        refine sf_throw rfl rfl ?_
        refine sf_xout rfl rfl ?_
        refine sf_xhh (L' := [(0, .inl (.ref 0)), (1, .inl (.int a_l1)), (2, .inl (.int a_l2))]) rfl rfl ?_
        refine sf_iconst sf_c1 (fun z18 ez18 => ?_)
        refine sf_ireturn rfl rfl ?_
        exact hR _ _ hI0 hs0 (by omega) (by omega) (by omega)
      · refine sf_iload rfl ?_
        refine sf_iload rfl ?_
        refine sf_f2_ge (fun h19 => ?_) (fun h19 => ?_)
        · refine sf_iconst sf_c0 (fun z20 ez20 => ?_)
          refine sf_zreturn (by omega) rfl rfl ?_
          refine sf_call1 rfl rfl rfl ?_
          refine sf_sp (L := [(0, .inl (.int z20))]) rfl rfl ?_
          refine sf_iload rfl ?_
          refine sf_f1_eq (fun h21 => ?_) (fun h21 => absurd h21 (by omega))
          refine sf_throw rfl rfl ?_
          refine sf_xout rfl rfl ?_
          refine sf_xhh (L' := [(0, .inl (.ref 0)), (1, .inl (.int a_l1)), (2, .inl (.int a_l2))]) rfl rfl ?_
          refine sf_iconst sf_c1 (fun z22 ez22 => ?_)
          refine sf_ireturn rfl rfl ?_
          exact hR _ _ hI0 hs0 (by omega) (by omega) (by omega)
        · refine sf_iconst sf_c1 (fun z23 ez23 => ?_)
          refine sf_zreturn (by omega) rfl rfl ?_
          refine sf_call1 rfl rfl rfl ?_
          refine sf_sp (L := [(0, .inl (.int z23))]) rfl rfl ?_
          refine sf_iload rfl ?_
          refine sf_f1_eq (fun h24 => absurd h24 (by omega)) (fun h24 => ?_)
          refine sf_vreturn rfl rfl ?_
          refine sf_aload rfl ?_
          refine sf_getr hI0 rfl rfl ?_
          refine sf_getr hI0 rfl rfl ?_
          refine sf_iload rfl ?_
          refine sf_iload rfl ?_
          refine sf_iast hI0 hs0 rfl (by omega) (sf_bd _) rfl rfl (fun w25 Iw25 sw25 kw25 uw25 => ?_)
          clear kw25 uw25
          refine sf_vreturn rfl rfl ?_
          refine sf_iconst sf_c0 (fun z26 ez26 => ?_)
          refine sf_ireturn rfl rfl ?_
          exact hR _ _ Iw25 sw25 (by omega) (by omega) (by omega)
def sm_W_rule_0 : List Nat := [4, 5]
set_option maxRecDepth 100000 in
set_option maxHeartbeats 4000000 in
theorem sc_W_rule_0 {w0 : wq_W} (hI0 : sf_I w0) {rt : Option wq_V → wq_W → Prop} {xt : Nat → wq_W → Prop} {a_l1 : Int32} {a_l2 : Int32} {a_l3 : Int32}  (hR : ∀ (r : Int32) (w : wq_W), sf_I w → sf_m sm_W_rule_0 w0 w → 0 ≤ r.toInt → r.toInt ≤ 1 → (((r.toInt = 0 ∧ (0 ≤ a_l1.toInt ∧ a_l1.toInt < (sf_f w0 1 0).toInt ∧ 0 ≤ a_l2.toInt ∧ a_l2.toInt ≤ 1 ∧ 0 ≤ a_l3.toInt ∧ a_l3.toInt ≤ 1000)) ∨ (r.toInt = 1 ∧ ¬ (0 ≤ a_l1.toInt ∧ a_l1.toInt < (sf_f w0 1 0).toInt ∧ 0 ≤ a_l2.toInt ∧ a_l2.toInt ≤ 1 ∧ 0 ≤ a_l3.toInt ∧ a_l3.toInt ≤ 1000)))) → rt (some (.inl (.int r))) w) : ks_W_rule [.inl (.ref 0), .inl (.int a_l1), .inl (.int a_l2), .inl (.int a_l3)] w0 rt xt := by
  have hs0 : sf_m sm_W_rule_0 w0 w0 := sf_m0
  refine sf_sp (L := [(0, .inl (.ref 0)), (1, .inl (.int a_l1)), (2, .inl (.int a_l2)), (3, .inl (.int a_l3))]) rfl rfl ?_
  refine sf_aload rfl ?_
  refine sf_iload rfl ?_
  refine sf_iload rfl ?_
  refine sf_iload rfl ?_
  refine sf_call4 rfl rfl rfl ?_
  refine sf_rv hI0 rfl ?_
  refine sf_sp (L := [(0, .inl (.ref 0)), (1, .inl (.int a_l1)), (2, .inl (.int a_l2)), (3, .inl (.int a_l3))]) rfl rfl ?_
  refine sf_aload rfl ?_
  refine sf_iload rfl ?_
  refine sf_call2 rfl rfl rfl ?_
  refine sf_rv hI0 rfl ?_
  refine sf_sp (L := [(0, .inl (.ref 0)), (1, .inl (.int a_l1))]) rfl rfl ?_
  refine sf_iload rfl ?_
  refine sf_aload rfl ?_
  refine sf_getr hI0 rfl rfl ?_
  refine sf_geti hI0 rfl rfl (fun v1 lv1 uv1 ev1 => ?_)
  refine sf_call2 rfl rfl rfl ?_
  refine sf_sp (L := [(0, .inl (.int a_l1)), (1, .inl (.int v1))]) rfl rfl ?_
  refine sf_iconst sf_c0 (fun z2 ez2 => ?_)
  refine sf_iload rfl ?_
  refine sf_f2_gt (fun h3 => ?_) (fun h3 => ?_)
  · refine sf_iconst sf_c0 (fun z4 ez4 => ?_)
    refine sf_zreturn (by omega) rfl rfl ?_
    refine sf_zreturn (by omega) rfl rfl ?_
    refine sf_call1 rfl rfl rfl ?_
    refine sf_sp (L := [(0, .inl (.int z4))]) rfl rfl ?_
    refine sf_iload rfl ?_
    refine sf_f1_eq (fun h5 => ?_) (fun h5 => absurd h5 (by omega))
    refine sf_throw rfl rfl ?_
    refine sf_xout rfl rfl ?_
    refine sf_xhh (L' := [(0, .inl (.ref 0)), (1, .inl (.int a_l1)), (2, .inl (.int a_l2)), (3, .inl (.int a_l3))]) rfl rfl ?_
    refine sf_iconst sf_c1 (fun z6 ez6 => ?_)
    refine sf_ireturn rfl rfl ?_
    exact hR _ _ hI0 hs0 (by omega) (by omega) (by first | (refine Or.inl ⟨by omega, ?_⟩; omega) | (refine Or.inr ⟨by omega, ?_⟩; omega))
  · refine sf_iload rfl ?_
    refine sf_iload rfl ?_
    refine sf_f2_ge (fun h7 => ?_) (fun h7 => ?_)
    · refine sf_iconst sf_c0 (fun z8 ez8 => ?_)
      refine sf_zreturn (by omega) rfl rfl ?_
      refine sf_zreturn (by omega) rfl rfl ?_
      refine sf_call1 rfl rfl rfl ?_
      refine sf_sp (L := [(0, .inl (.int z8))]) rfl rfl ?_
      refine sf_iload rfl ?_
      refine sf_f1_eq (fun h9 => ?_) (fun h9 => absurd h9 (by omega))
      refine sf_throw rfl rfl ?_
      refine sf_xout rfl rfl ?_
      refine sf_xhh (L' := [(0, .inl (.ref 0)), (1, .inl (.int a_l1)), (2, .inl (.int a_l2)), (3, .inl (.int a_l3))]) rfl rfl ?_
      refine sf_iconst sf_c1 (fun z10 ez10 => ?_)
      refine sf_ireturn rfl rfl ?_
      exact hR _ _ hI0 hs0 (by omega) (by omega) (by first | (refine Or.inl ⟨by omega, ?_⟩; omega) | (refine Or.inr ⟨by omega, ?_⟩; omega))
    · refine sf_iconst sf_c1 (fun z11 ez11 => ?_)
      refine sf_zreturn (by omega) rfl rfl ?_
      refine sf_zreturn (by omega) rfl rfl ?_
      refine sf_call1 rfl rfl rfl ?_
      refine sf_sp (L := [(0, .inl (.int z11))]) rfl rfl ?_
      refine sf_iload rfl ?_
      refine sf_f1_eq (fun h12 => absurd h12 (by omega)) (fun h12 => ?_)
      refine sf_vreturn rfl rfl ?_
      refine sf_iload rfl ?_
      refine sf_f1_eq (fun h13 => ?_) (fun h13 => ?_)
      · refine sf_iconst sf_c1 (fun z14 ez14 => ?_)
        refine sf_call1 rfl rfl rfl ?_
        refine sf_sp (L := [(0, .inl (.int z14))]) rfl rfl ?_
        refine sf_iload rfl ?_
        refine sf_f1_eq (fun h15 => absurd h15 (by omega)) (fun h15 => ?_)
        refine sf_vreturn rfl rfl ?_
        refine sf_iload rfl ?_
        refine sf_iconst sf_c0 (fun z16 ez16 => ?_)
        refine sf_iconst sf_c1000 (fun z17 ez17 => ?_)
        refine sf_call3 rfl rfl rfl ?_
        refine sf_sp (L := [(0, .inl (.int a_l3)), (1, .inl (.int z16)), (2, .inl (.int z17))]) rfl rfl ?_
        refine sf_iload rfl ?_
        refine sf_iload rfl ?_
        refine sf_f2_gt (fun h18 => ?_) (fun h18 => ?_)
        · refine sf_iconst sf_c0 (fun z19 ez19 => ?_)
          refine sf_zreturn (by omega) rfl rfl ?_
          refine sf_call1 rfl rfl rfl ?_
          refine sf_sp (L := [(0, .inl (.int z19))]) rfl rfl ?_
          refine sf_iload rfl ?_
          refine sf_f1_eq (fun h20 => ?_) (fun h20 => absurd h20 (by omega))
          refine sf_throw rfl rfl ?_
          refine sf_xout rfl rfl ?_
          refine sf_xhh (L' := [(0, .inl (.ref 0)), (1, .inl (.int a_l1)), (2, .inl (.int a_l2)), (3, .inl (.int a_l3))]) rfl rfl ?_
          refine sf_iconst sf_c1 (fun z21 ez21 => ?_)
          refine sf_ireturn rfl rfl ?_
          exact hR _ _ hI0 hs0 (by omega) (by omega) (by first | (refine Or.inl ⟨by omega, ?_⟩; omega) | (refine Or.inr ⟨by omega, ?_⟩; omega))
        · refine sf_iload rfl ?_
          refine sf_iload rfl ?_
          refine sf_f2_gt (fun h22 => ?_) (fun h22 => ?_)
          · refine sf_iconst sf_c0 (fun z23 ez23 => ?_)
            refine sf_zreturn (by omega) rfl rfl ?_
            refine sf_call1 rfl rfl rfl ?_
            refine sf_sp (L := [(0, .inl (.int z23))]) rfl rfl ?_
            refine sf_iload rfl ?_
            refine sf_f1_eq (fun h24 => ?_) (fun h24 => absurd h24 (by omega))
            refine sf_throw rfl rfl ?_
            refine sf_xout rfl rfl ?_
            refine sf_xhh (L' := [(0, .inl (.ref 0)), (1, .inl (.int a_l1)), (2, .inl (.int a_l2)), (3, .inl (.int a_l3))]) rfl rfl ?_
            refine sf_iconst sf_c1 (fun z25 ez25 => ?_)
            refine sf_ireturn rfl rfl ?_
            exact hR _ _ hI0 hs0 (by omega) (by omega) (by first | (refine Or.inl ⟨by omega, ?_⟩; omega) | (refine Or.inr ⟨by omega, ?_⟩; omega))
          · refine sf_iconst sf_c1 (fun z26 ez26 => ?_)
            refine sf_zreturn (by omega) rfl rfl ?_
            refine sf_call1 rfl rfl rfl ?_
            refine sf_sp (L := [(0, .inl (.int z26))]) rfl rfl ?_
            refine sf_iload rfl ?_
            refine sf_f1_eq (fun h27 => absurd h27 (by omega)) (fun h27 => ?_)
            refine sf_vreturn rfl rfl ?_
            refine sf_aload rfl ?_
            refine sf_getr hI0 rfl rfl ?_
            refine sf_getr hI0 rfl rfl ?_
            refine sf_iload rfl ?_
            refine sf_iload rfl ?_
            refine sf_iast hI0 hs0 rfl (by omega) (sf_bd _) rfl rfl (fun w28 Iw28 sw28 kw28 uw28 => ?_)
            clear kw28 uw28
            refine sf_aload rfl ?_
            refine sf_getr Iw28 rfl rfl ?_
            refine sf_getr Iw28 rfl rfl ?_
            refine sf_iload rfl ?_
            refine sf_iload rfl ?_
            refine sf_iast Iw28 sw28 rfl (by omega) (sf_bd _) rfl rfl (fun w29 Iw29 sw29 kw29 uw29 => ?_)
            clear kw29 uw29
            refine sf_vreturn rfl rfl ?_
            refine sf_iconst sf_c0 (fun z30 ez30 => ?_)
            refine sf_ireturn rfl rfl ?_
            exact hR _ _ Iw29 sw29 (by omega) (by omega) (by first | (refine Or.inl ⟨by omega, ?_⟩; omega) | (refine Or.inr ⟨by omega, ?_⟩; omega))
      · refine sf_iload rfl ?_
        refine sf_iconst sf_c1 (fun z31 ez31 => ?_)
        refine sf_f2_eq (fun h32 => ?_) (fun h32 => ?_)
        · refine sf_iconst sf_c1 (fun z33 ez33 => ?_)
          refine sf_call1 rfl rfl rfl ?_
          refine sf_sp (L := [(0, .inl (.int z33))]) rfl rfl ?_
          refine sf_iload rfl ?_
          refine sf_f1_eq (fun h34 => absurd h34 (by omega)) (fun h34 => ?_)
          refine sf_vreturn rfl rfl ?_
          refine sf_iload rfl ?_
          refine sf_iconst sf_c0 (fun z35 ez35 => ?_)
          refine sf_iconst sf_c1000 (fun z36 ez36 => ?_)
          refine sf_call3 rfl rfl rfl ?_
          refine sf_sp (L := [(0, .inl (.int a_l3)), (1, .inl (.int z35)), (2, .inl (.int z36))]) rfl rfl ?_
          refine sf_iload rfl ?_
          refine sf_iload rfl ?_
          refine sf_f2_gt (fun h37 => ?_) (fun h37 => ?_)
          · refine sf_iconst sf_c0 (fun z38 ez38 => ?_)
            refine sf_zreturn (by omega) rfl rfl ?_
            refine sf_call1 rfl rfl rfl ?_
            refine sf_sp (L := [(0, .inl (.int z38))]) rfl rfl ?_
            refine sf_iload rfl ?_
            refine sf_f1_eq (fun h39 => ?_) (fun h39 => absurd h39 (by omega))
            refine sf_throw rfl rfl ?_
            refine sf_xout rfl rfl ?_
            refine sf_xhh (L' := [(0, .inl (.ref 0)), (1, .inl (.int a_l1)), (2, .inl (.int a_l2)), (3, .inl (.int a_l3))]) rfl rfl ?_
            refine sf_iconst sf_c1 (fun z40 ez40 => ?_)
            refine sf_ireturn rfl rfl ?_
            exact hR _ _ hI0 hs0 (by omega) (by omega) (by first | (refine Or.inl ⟨by omega, ?_⟩; omega) | (refine Or.inr ⟨by omega, ?_⟩; omega))
          · refine sf_iload rfl ?_
            refine sf_iload rfl ?_
            refine sf_f2_gt (fun h41 => ?_) (fun h41 => ?_)
            · refine sf_iconst sf_c0 (fun z42 ez42 => ?_)
              refine sf_zreturn (by omega) rfl rfl ?_
              refine sf_call1 rfl rfl rfl ?_
              refine sf_sp (L := [(0, .inl (.int z42))]) rfl rfl ?_
              refine sf_iload rfl ?_
              refine sf_f1_eq (fun h43 => ?_) (fun h43 => absurd h43 (by omega))
              refine sf_throw rfl rfl ?_
              refine sf_xout rfl rfl ?_
              refine sf_xhh (L' := [(0, .inl (.ref 0)), (1, .inl (.int a_l1)), (2, .inl (.int a_l2)), (3, .inl (.int a_l3))]) rfl rfl ?_
              refine sf_iconst sf_c1 (fun z44 ez44 => ?_)
              refine sf_ireturn rfl rfl ?_
              exact hR _ _ hI0 hs0 (by omega) (by omega) (by first | (refine Or.inl ⟨by omega, ?_⟩; omega) | (refine Or.inr ⟨by omega, ?_⟩; omega))
            · refine sf_iconst sf_c1 (fun z45 ez45 => ?_)
              refine sf_zreturn (by omega) rfl rfl ?_
              refine sf_call1 rfl rfl rfl ?_
              refine sf_sp (L := [(0, .inl (.int z45))]) rfl rfl ?_
              refine sf_iload rfl ?_
              refine sf_f1_eq (fun h46 => absurd h46 (by omega)) (fun h46 => ?_)
              refine sf_vreturn rfl rfl ?_
              refine sf_aload rfl ?_
              refine sf_getr hI0 rfl rfl ?_
              refine sf_getr hI0 rfl rfl ?_
              refine sf_iload rfl ?_
              refine sf_iload rfl ?_
              refine sf_iast hI0 hs0 rfl (by omega) (sf_bd _) rfl rfl (fun w47 Iw47 sw47 kw47 uw47 => ?_)
              clear kw47 uw47
              refine sf_aload rfl ?_
              refine sf_getr Iw47 rfl rfl ?_
              refine sf_getr Iw47 rfl rfl ?_
              refine sf_iload rfl ?_
              refine sf_iload rfl ?_
              refine sf_iast Iw47 sw47 rfl (by omega) (sf_bd _) rfl rfl (fun w48 Iw48 sw48 kw48 uw48 => ?_)
              clear kw48 uw48
              refine sf_vreturn rfl rfl ?_
              refine sf_iconst sf_c0 (fun z49 ez49 => ?_)
              refine sf_ireturn rfl rfl ?_
              exact hR _ _ Iw48 sw48 (by omega) (by omega) (by first | (refine Or.inl ⟨by omega, ?_⟩; omega) | (refine Or.inr ⟨by omega, ?_⟩; omega))
        · refine sf_iconst sf_c0 (fun z50 ez50 => ?_)
          refine sf_call1 rfl rfl rfl ?_
          refine sf_sp (L := [(0, .inl (.int z50))]) rfl rfl ?_
          refine sf_iload rfl ?_
          refine sf_f1_eq (fun h51 => ?_) (fun h51 => absurd h51 (by omega))
          refine sf_throw rfl rfl ?_
          refine sf_xout rfl rfl ?_
          refine sf_xhh (L' := [(0, .inl (.ref 0)), (1, .inl (.int a_l1)), (2, .inl (.int a_l2)), (3, .inl (.int a_l3))]) rfl rfl ?_
          refine sf_iconst sf_c1 (fun z52 ez52 => ?_)
          refine sf_ireturn rfl rfl ?_
          exact hR _ _ hI0 hs0 (by omega) (by omega) (by first | (refine Or.inl ⟨by omega, ?_⟩; omega) | (refine Or.inr ⟨by omega, ?_⟩; omega))
def sm_W_madeIn_0_130 : List Nat := [11, 12, 130]
set_option maxRecDepth 100000 in
set_option maxHeartbeats 4000000 in
theorem sc_W_madeIn_0_130 {w0 : wq_W} (hI0 : sf_I w0) {rt : Option wq_V → wq_W → Prop} {xt : Nat → wq_W → Prop} {a_l1 : Int32} {a_l2 : Int32}  (hR : ∀ (r : Int32) (w : wq_W), sf_I w → sf_m sm_W_madeIn_0_130 w0 w → 0 ≤ r.toInt → r.toInt ≤ 1 → rt (some (.inl (.int r))) w) : ks_W_madeIn [.inl (.ref 0), .inl (.int a_l1), .inl (.int a_l2), .inl (.ref 130)] w0 rt xt := by
  have hs0 : sf_m sm_W_madeIn_0_130 w0 w0 := sf_m0
  refine sf_sp (L := [(0, .inl (.ref 0)), (1, .inl (.int a_l1)), (2, .inl (.int a_l2)), (3, .inl (.ref 130))]) rfl rfl ?_
  refine sf_aload rfl ?_
  refine sf_iconst sf_c0 (fun z1 ez1 => ?_)
  refine sf_aload rfl ?_
  refine sf_iload rfl ?_
  refine sf_iload rfl ?_
  refine sf_call3 rfl rfl rfl ?_
  refine sf_rv hI0 rfl ?_
  refine sf_sp (L := [(0, .inl (.ref 0)), (1, .inl (.int a_l1)), (2, .inl (.int a_l2))]) rfl rfl ?_
  refine sf_iload rfl ?_
  refine sf_call1 rfl rfl rfl ?_
  refine sf_sp (L := [(0, .inl (.int a_l1))]) rfl rfl ?_
  refine sf_iload rfl ?_
  refine sf_iconst sf_c16 (fun z2 ez2 => ?_)
  refine sf_call2 rfl rfl rfl ?_
  refine sf_sp (L := [(0, .inl (.int a_l1)), (1, .inl (.int z2))]) rfl rfl ?_
  refine sf_iconst sf_c0 (fun z3 ez3 => ?_)
  refine sf_iload rfl ?_
  refine sf_f2_gt (fun h4 => ?_) (fun h4 => ?_)
  · refine sf_iconst sf_c0 (fun z5 ez5 => ?_)
    refine sf_zreturn (by omega) rfl rfl ?_
    refine sf_zreturn (by omega) rfl rfl ?_
    refine sf_f1_eq (fun h6 => ?_) (fun h6 => absurd h6 (by omega))
    refine sf_iconst sf_c0 (fun z7 ez7 => ?_)
    refine sf_call1 rfl rfl rfl ?_
    refine sf_sp (L := [(0, .inl (.int z7))]) rfl rfl ?_
    refine sf_iload rfl ?_
    refine sf_f1_eq (fun h8 => ?_) (fun h8 => absurd h8 (by omega))
    refine sf_throw rfl rfl ?_
    refine sf_xout rfl rfl ?_
    refine sf_xhh (L' := [(0, .inl (.ref 0)), (1, .inl (.int a_l1)), (2, .inl (.int a_l2)), (3, .inl (.ref 130))]) rfl rfl ?_
    refine sf_iconst sf_c1 (fun z9 ez9 => ?_)
    refine sf_ireturn rfl rfl ?_
    exact hR _ _ hI0 hs0 (by omega) (by omega) 
  · refine sf_iload rfl ?_
    refine sf_iload rfl ?_
    refine sf_f2_ge (fun h10 => ?_) (fun h10 => ?_)
    · refine sf_iconst sf_c0 (fun z11 ez11 => ?_)
      refine sf_zreturn (by omega) rfl rfl ?_
      refine sf_zreturn (by omega) rfl rfl ?_
      refine sf_f1_eq (fun h12 => ?_) (fun h12 => absurd h12 (by omega))
      refine sf_iconst sf_c0 (fun z13 ez13 => ?_)
      refine sf_call1 rfl rfl rfl ?_
      refine sf_sp (L := [(0, .inl (.int z13))]) rfl rfl ?_
      refine sf_iload rfl ?_
      refine sf_f1_eq (fun h14 => ?_) (fun h14 => absurd h14 (by omega))
      refine sf_throw rfl rfl ?_
      refine sf_xout rfl rfl ?_
      refine sf_xhh (L' := [(0, .inl (.ref 0)), (1, .inl (.int a_l1)), (2, .inl (.int a_l2)), (3, .inl (.ref 130))]) rfl rfl ?_
      refine sf_iconst sf_c1 (fun z15 ez15 => ?_)
      refine sf_ireturn rfl rfl ?_
      exact hR _ _ hI0 hs0 (by omega) (by omega) 
    · refine sf_iconst sf_c1 (fun z16 ez16 => ?_)
      refine sf_zreturn (by omega) rfl rfl ?_
      refine sf_zreturn (by omega) rfl rfl ?_
      refine sf_f1_eq (fun h17 => absurd h17 (by omega)) (fun h17 => ?_)
      refine sf_iload rfl ?_
      refine sf_iconst sf_c4 (fun z18 ez18 => ?_)
      refine sf_call2 rfl rfl rfl ?_
      refine sf_sp (L := [(0, .inl (.int a_l2)), (1, .inl (.int z18))]) rfl rfl ?_
      refine sf_iconst sf_c0 (fun z19 ez19 => ?_)
      refine sf_iload rfl ?_
      refine sf_f2_gt (fun h20 => ?_) (fun h20 => ?_)
      · refine sf_iconst sf_c0 (fun z21 ez21 => ?_)
        refine sf_zreturn (by omega) rfl rfl ?_
        refine sf_f1_eq (fun h22 => ?_) (fun h22 => absurd h22 (by omega))
        refine sf_iconst sf_c0 (fun z23 ez23 => ?_)
        refine sf_call1 rfl rfl rfl ?_
        refine sf_sp (L := [(0, .inl (.int z23))]) rfl rfl ?_
        refine sf_iload rfl ?_
        refine sf_f1_eq (fun h24 => ?_) (fun h24 => absurd h24 (by omega))
        refine sf_throw rfl rfl ?_
        refine sf_xout rfl rfl ?_
        refine sf_xhh (L' := [(0, .inl (.ref 0)), (1, .inl (.int a_l1)), (2, .inl (.int a_l2)), (3, .inl (.ref 130))]) rfl rfl ?_
        refine sf_iconst sf_c1 (fun z25 ez25 => ?_)
        refine sf_ireturn rfl rfl ?_
        exact hR _ _ hI0 hs0 (by omega) (by omega) 
      · refine sf_iload rfl ?_
        refine sf_iload rfl ?_
        refine sf_f2_ge (fun h26 => ?_) (fun h26 => ?_)
        · refine sf_iconst sf_c0 (fun z27 ez27 => ?_)
          refine sf_zreturn (by omega) rfl rfl ?_
          refine sf_f1_eq (fun h28 => ?_) (fun h28 => absurd h28 (by omega))
          refine sf_iconst sf_c0 (fun z29 ez29 => ?_)
          refine sf_call1 rfl rfl rfl ?_
          refine sf_sp (L := [(0, .inl (.int z29))]) rfl rfl ?_
          refine sf_iload rfl ?_
          refine sf_f1_eq (fun h30 => ?_) (fun h30 => absurd h30 (by omega))
          refine sf_throw rfl rfl ?_
          refine sf_xout rfl rfl ?_
          refine sf_xhh (L' := [(0, .inl (.ref 0)), (1, .inl (.int a_l1)), (2, .inl (.int a_l2)), (3, .inl (.ref 130))]) rfl rfl ?_
          refine sf_iconst sf_c1 (fun z31 ez31 => ?_)
          refine sf_ireturn rfl rfl ?_
          exact hR _ _ hI0 hs0 (by omega) (by omega) 
        · refine sf_iconst sf_c1 (fun z32 ez32 => ?_)
          refine sf_zreturn (by omega) rfl rfl ?_
          refine sf_f1_eq (fun h33 => absurd h33 (by omega)) (fun h33 => ?_)
          refine sf_iconst sf_c1 (fun z34 ez34 => ?_)
          refine sf_call1 rfl rfl rfl ?_
          refine sf_sp (L := [(0, .inl (.int z34))]) rfl rfl ?_
          refine sf_iload rfl ?_
          refine sf_f1_eq (fun h35 => absurd h35 (by omega)) (fun h35 => ?_)
          refine sf_vreturn rfl rfl ?_
          refine sf_aload rfl ?_
          refine sf_getr hI0 rfl rfl ?_
          refine sf_iload rfl ?_
          refine sf_iload rfl ?_
          refine sf_call3 rfl rfl rfl ?_
          refine sf_rv hI0 rfl ?_
          refine sc_O_isMadeIn hI0 (by omega) (by omega) (by omega) (by omega) (fun v36 w37 Iw37 tw37 lv36 uv36 => ?_)
          have s39 := sf_mt hs0 tw37 rfl
          refine sf_zreturn (by omega) rfl rfl ?_
          refine sf_f1_eq (fun h40 => ?_) (fun h40 => ?_)
          · refine sf_lconst (by decide : (0 : Int64).toInt = 0) (fun z41 ez41 => ?_)
            refine sf_last Iw37 s39 rfl (by omega) rfl rfl (fun w42 Iw42 sw42 kw42 uw42 => ?_)
            clear kw42 uw42
            refine sf_iconst sf_c0 (fun z43 ez43 => ?_)
            refine sf_ireturn rfl rfl ?_
            exact hR _ _ Iw42 sw42 (by omega) (by omega) 
          · refine sf_lconst (by decide : (1 : Int64).toInt = 1) (fun z44 ez44 => ?_)
            refine sf_last Iw37 s39 rfl (by omega) rfl rfl (fun w45 Iw45 sw45 kw45 uw45 => ?_)
            clear kw45 uw45
            refine sf_iconst sf_c0 (fun z46 ez46 => ?_)
            refine sf_ireturn rfl rfl ?_
            exact hR _ _ Iw45 sw45 (by omega) (by omega) 
