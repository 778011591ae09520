def sm_M_books : List Nat := [71, 8100]
set_option maxRecDepth 100000 in
set_option maxHeartbeats 4000000 in
theorem sc_M_books {w0 : wq_W} (hI0 : sf_I w0) {rt : Option wq_V → wq_W → Prop} {xt : Nat → wq_W → Prop} {a_what : Int32}  (hR : ∀ (r : Int64) (w : wq_W), sf_I w → sf_m sm_M_books w0 w → rt (some (.inl (.long r))) w) : ks_M_books [.inl (.ref 71), .inl (.int a_what)] w0 rt xt := by
  have hs0 : sf_m sm_M_books w0 w0 := sf_m0
  refine sf_sp (L := [(0, .inl (.ref 71)), (1, .inl (.int a_what))]) rfl rfl ?_
  refine sf_aload rfl ?_
  refine sf_iload rfl ?_
  refine sf_iconst sf_c0 (fun z1 ez1 => ?_)
  refine sf_iconst sf_c1 (fun z2 ez2 => ?_)
  refine sf_call3 rfl rfl rfl ?_
  refine sf_sp (L := [(0, .inl (.int a_what)), (1, .inl (.int z1)), (2, .inl (.int z2))]) rfl rfl ?_
  refine sf_iload rfl ?_
  refine sf_iload rfl ?_
  refine sf_f2_lt (fun h3 => ?_) (fun h3 => ?_)
  · refine sf_iconst sf_c0 (fun z4 ez4 => ?_)
    refine sf_zreturn (by omega) rfl rfl ?_
    refine sf_f1_eq (fun h5 => ?_) (fun h5 => absurd h5 (by omega))
    refine sf_iconst sf_c1 (fun z6 ez6 => ?_)
    refine sf_puti hI0 hs0 rfl rfl (sf_bd _) rfl rfl rfl (fun w7 Iw7 sw7 kw7 uw7 => ?_)
    clear kw7
    refine sf_aload rfl ?_
    refine sf_geti Iw7 rfl rfl (fun v8 lv8 uv8 ev8 => ?_)
    rw [uw7] at ev8
    refine sf_f1_le (fun h9 => absurd h9 (by omega)) (fun h9 => ?_)
    refine sf_lconst (by decide : (0 : Int64).toInt = 0) (fun z10 ez10 => ?_)
    refine sf_lreturn rfl rfl ?_
    exact hR _ _ Iw7 sw7 
  · refine sf_iload rfl ?_
    refine sf_iload rfl ?_
    refine sf_f2_gt (fun h11 => ?_) (fun h11 => ?_)
    · refine sf_iconst sf_c0 (fun z12 ez12 => ?_)
      refine sf_zreturn (by omega) rfl rfl ?_
      refine sf_f1_eq (fun h13 => ?_) (fun h13 => absurd h13 (by omega))
      refine sf_iconst sf_c1 (fun z14 ez14 => ?_)
      refine sf_puti hI0 hs0 rfl rfl (sf_bd _) rfl rfl rfl (fun w15 Iw15 sw15 kw15 uw15 => ?_)
      clear kw15
      refine sf_aload rfl ?_
      refine sf_geti Iw15 rfl rfl (fun v16 lv16 uv16 ev16 => ?_)
      rw [uw15] at ev16
      refine sf_f1_le (fun h17 => absurd h17 (by omega)) (fun h17 => ?_)
      refine sf_lconst (by decide : (0 : Int64).toInt = 0) (fun z18 ez18 => ?_)
      refine sf_lreturn rfl rfl ?_
      exact hR _ _ Iw15 sw15 
    · refine sf_iconst sf_c1 (fun z19 ez19 => ?_)
      refine sf_zreturn (by omega) rfl rfl ?_
      refine sf_f1_eq (fun h20 => absurd h20 (by omega)) (fun h20 => ?_)
      refine sf_iconst sf_c0 (fun z21 ez21 => ?_)
      refine sf_puti hI0 hs0 rfl rfl (sf_bd _) rfl rfl rfl (fun w22 Iw22 sw22 kw22 uw22 => ?_)
      clear kw22
      refine sf_aload rfl ?_
      refine sf_geti Iw22 rfl rfl (fun v23 lv23 uv23 ev23 => ?_)
      rw [uw22] at ev23
      refine sf_f1_le (fun h24 => ?_) (fun h24 => absurd h24 (by omega))
      refine sf_iload rfl ?_
      refine sf_f1_eq (fun h25 => ?_) (fun h25 => ?_)
      · refine sf_aload rfl ?_
        refine sf_getl Iw22 rfl rfl (fun v26 => ?_)
        refine sf_lreturn rfl rfl ?_
        exact hR _ _ Iw22 sw22 
      · refine sf_aload rfl ?_
        refine sf_getl Iw22 rfl rfl (fun v27 => ?_)
        refine sf_lreturn rfl rfl ?_
        exact hR _ _ Iw22 sw22 
