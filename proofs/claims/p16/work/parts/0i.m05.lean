def sm_M_isWhole : List Nat := []
set_option maxRecDepth 100000 in
set_option maxHeartbeats 4000000 in
theorem sc_M_isWhole {w0 : wq_W} (hI0 : sf_I w0) {rt : Option wq_V → wq_W → Prop} {xt : Nat → wq_W → Prop} {a_d : Int32} (p0 : 0 ≤ a_d.toInt) (p1 : a_d.toInt ≤ 11) (hR : ∀ (r : Int32), 0 ≤ r.toInt → r.toInt ≤ 1 → (r.toInt = 1 ↔ ((sf_a w0 106 a_d.toInt.toNat).toInt = 1 ∧ ∀ j : Nat, (j : Int) < (sf_a w0 104 a_d.toInt.toNat).toInt → (sf_a w0 123 (sl_iy (sf_a w0 113) (4 * a_d.toInt).toNat j)).toInt = 0)) → rt (some (.inl (.int r))) w0) : ks_M_isWhole [.inl (.ref 71), .inl (.int a_d)] w0 rt xt := by
  have bL := (sf_arr hI0 (p := 104) rfl).2.1 a_d.toInt.toNat (by omega)
  have hl : ∀ n : Nat, (∀ (x2 : Int32) (x3 : Int32), (0 ≤ x2.toInt) → (x2.toInt ≤ 1) → (0 ≤ x3.toInt) → (x3.toInt ≤ 48) → (4 * a_d.toInt ≤ x3.toInt ∧ x3.toInt ≤ 4 * a_d.toInt + (sf_a w0 104 a_d.toInt.toNat).toInt) → (x2.toInt = 1 ↔ ((sf_a w0 106 a_d.toInt.toNat).toInt = 1 ∧ ∀ j : Nat, (j : Int) < x3.toInt - 4 * a_d.toInt → (sf_a w0 123 (sl_iy (sf_a w0 113) (4 * a_d.toInt).toNat j)).toInt = 0)) → (48 - x3.toInt < (n : Int)) → ku_M_isWhole rt xt n 11 [(0, .inl (.ref 71)), (1, .inl (.int a_d)), (2, .inl (.int x2)), (3, .inl (.int x3))] [] w0 0 0) := by
    intro n
    induction n with
    | zero =>
      refine ?_
      · intros; omega
    | succ n ih =>
      have i_11 := ih
      intro x2 x3 l_x2 u_x2 l_x3 u_x3 f_0 f_1 hm
      show kh_M_isWhole_11 rt xt (ku_M_isWhole rt xt n) [(0, .inl (.ref 71)), (1, .inl (.int a_d)), (2, .inl (.int x2)), (3, .inl (.int x3))] [] w0 0 0
      generalize ku_M_isWhole rt xt n = K at i_11 ⊢
      refine sf_iload rfl ?_
      refine sf_iconst sf_c4 (fun z1 ez1 => ?_)
      refine sf_iload rfl ?_
      refine sf_imull (n := 4) (by omega) (by omega) (fun v2 ev2 => ?_)
      refine sf_aload rfl ?_
      refine sf_getr hI0 rfl rfl ?_
      refine sf_iload rfl ?_
      refine sf_iald hI0 rfl (by omega) (fun v3 lv3 uv3 ev3 => ?_)
      refine sf_iadd (by omega) (fun v4 ev4 => ?_)
      refine sf_f2_ge (fun h5 => ?_) (fun h5 => ?_)
      · refine sf_iload rfl ?_
        refine sf_zreturn (by omega) rfl rfl ?_
        exact hR _ (by omega) (by omega) (by rw [f_1]; exact ⟨fun ⟨h1, h2⟩ => ⟨h1, fun k hk => h2 k (by omega)⟩, fun ⟨h1, h2⟩ => ⟨h1, fun k hk => h2 k (by omega)⟩⟩)
      · refine sf_iload rfl ?_
        refine sf_f1_eq (fun h6 => ?_) (fun h6 => ?_)
        · refine sf_iconst sf_c0 (fun z7 ez7 => ?_)
          refine sf_istore (L' := [(0, .inl (.ref 71)), (1, .inl (.int a_d)), (3, .inl (.int x3))]) rfl ?_
          refine sf_iinc (L' := [(2, .inl (.int z7)), (0, .inl (.ref 71)), (1, .inl (.int a_d))]) sf_c1 rfl rfl (by omega) (fun v8 ev8 => ?_)
          refine sf_can (L' := [(0, .inl (.ref 71)), (1, .inl (.int a_d)), (2, .inl (.int z7)), (3, .inl (.int v8))]) rfl ?_
          exact i_11 z7 v8 (by omega) (by omega) (by omega) (by omega) (by omega) (by exact sl_wS f_1 (n := (x3.toInt - 4 * a_d.toInt).toNat) (by omega) (by omega) (by omega)) (by omega)
        · refine sf_aload rfl ?_
          refine sf_getr hI0 rfl rfl ?_
          refine sf_aload rfl ?_
          refine sf_getr hI0 rfl rfl ?_
          refine sf_iload rfl ?_
          refine sf_iald hI0 rfl (by omega) (fun v9 lv9 uv9 ev9 => ?_)
          have gx := ev9
          refine sf_iald hI0 rfl (by omega) (fun v10 lv10 uv10 ev10 => ?_)
          have gz : (sf_a w0 123 (sl_iy (sf_a w0 113) (4 * a_d.toInt).toNat (x3.toInt - 4 * a_d.toInt).toNat)).toInt = v10.toInt := by unfold sl_iy; rw [show (4 * a_d.toInt).toNat + (x3.toInt - 4 * a_d.toInt).toNat = x3.toInt.toNat by omega, ← gx]; omega
          refine sf_f1_eq (fun h11 => ?_) (fun h11 => ?_)
          · refine sf_iconst sf_c1 (fun z12 ez12 => ?_)
            refine sf_istore (L' := [(0, .inl (.ref 71)), (1, .inl (.int a_d)), (3, .inl (.int x3))]) rfl ?_
            refine sf_iinc (L' := [(2, .inl (.int z12)), (0, .inl (.ref 71)), (1, .inl (.int a_d))]) sf_c1 rfl rfl (by omega) (fun v13 ev13 => ?_)
            refine sf_can (L' := [(0, .inl (.ref 71)), (1, .inl (.int a_d)), (2, .inl (.int z12)), (3, .inl (.int v13))]) rfl ?_
            exact i_11 z12 v13 (by omega) (by omega) (by omega) (by omega) (by omega) (by exact sl_wS f_1 (n := (x3.toInt - 4 * a_d.toInt).toNat) (by omega) (by omega) (by omega)) (by omega)
          · refine sf_iconst sf_c0 (fun z14 ez14 => ?_)
            refine sf_istore (L' := [(0, .inl (.ref 71)), (1, .inl (.int a_d)), (3, .inl (.int x3))]) rfl ?_
            refine sf_iinc (L' := [(2, .inl (.int z14)), (0, .inl (.ref 71)), (1, .inl (.int a_d))]) sf_c1 rfl rfl (by omega) (fun v15 ev15 => ?_)
            refine sf_can (L' := [(0, .inl (.ref 71)), (1, .inl (.int a_d)), (2, .inl (.int z14)), (3, .inl (.int v15))]) rfl ?_
            exact i_11 z14 v15 (by omega) (by omega) (by omega) (by omega) (by omega) (by exact sl_wS f_1 (n := (x3.toInt - 4 * a_d.toInt).toNat) (by omega) (by omega) (by omega)) (by omega)
  have hl1 := hl 1000000000000
  have i_11 := hl1
  clear hl hl1
  refine sf_sp (L := [(0, .inl (.ref 71)), (1, .inl (.int a_d))]) rfl rfl ?_
  generalize ku_M_isWhole rt xt 1000000000000 = K at i_11 ⊢
  refine sf_aload rfl ?_
  refine sf_getr hI0 rfl rfl ?_
  refine sf_iload rfl ?_
  refine sf_zald hI0 rfl (by omega) (fun v16 lv16 uv16 ev16 => ?_)
  refine sf_istore (L' := [(0, .inl (.ref 71)), (1, .inl (.int a_d))]) rfl ?_
  refine sf_iconst sf_c4 (fun z17 ez17 => ?_)
  refine sf_iload rfl ?_
  refine sf_imull (n := 4) (by omega) (by omega) (fun v18 ev18 => ?_)
  refine sf_istore (L' := [(2, .inl (.int v16)), (0, .inl (.ref 71)), (1, .inl (.int a_d))]) rfl ?_
  refine sf_can (L' := [(0, .inl (.ref 71)), (1, .inl (.int a_d)), (2, .inl (.int v16)), (3, .inl (.int v18))]) rfl ?_
  exact i_11 v16 v18 (by omega) (by omega) (by omega) (by omega) (by omega) (by exact ⟨fun h9 => ⟨by omega, fun j hj => absurd hj (by omega)⟩, fun h9 => by have h8 := h9.1; omega⟩) (by omega)
