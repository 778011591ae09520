def sm_M_came : List Nat := []
set_option maxRecDepth 100000 in
set_option maxHeartbeats 4000000 in
theorem sc_M_came {w0 : wq_W} (hI0 : sf_I w0) {rt : Option wq_V → wq_W → Prop} {xt : Nat → wq_W → Prop} {a_good : Int32} {a_byWork : Int32} (p0 : 0 ≤ a_byWork.toInt) (p1 : a_byWork.toInt ≤ 1) (hR : ∀ (r : Int32), rt (some (.inl (.int r))) w0) : ks_M_came [.inl (.ref 71), .inl (.int a_good), .inl (.int a_byWork)] w0 rt xt := by
  have hl : ∀ n : Nat, (∀ (x3 : Int32) (x4 : Int32), (0 ≤ x4.toInt) → (x4.toInt ≤ 40) → (40 - x4.toInt < (n : Int)) → ku_M_came rt xt n 5 [(0, .inl (.ref 71)), (1, .inl (.int a_good)), (2, .inl (.int a_byWork)), (3, .inl (.int x3)), (4, .inl (.int x4))] [] w0 0 0) := by
    intro n
    induction n with
    | zero =>
      refine ?_
      · intros; omega
    | succ n ih =>
      have i_5 := ih
      intro x3 x4 l_x4 u_x4 hm
      show kh_M_came_5 rt xt (ku_M_came rt xt n) [(0, .inl (.ref 71)), (1, .inl (.int a_good)), (2, .inl (.int a_byWork)), (3, .inl (.int x3)), (4, .inl (.int x4))] [] w0 0 0
      generalize ku_M_came rt xt n = K at i_5 ⊢
      refine sf_iload rfl ?_
      refine sf_aload rfl ?_
      refine sf_geti hI0 rfl rfl (fun v1 lv1 uv1 ev1 => ?_)
      refine sf_f2_ge (fun h2 => ?_) (fun h2 => ?_)
      · refine sf_iload rfl ?_
        refine sf_ireturn rfl rfl ?_
        exact hR _ 
      · refine sf_aload rfl ?_
        refine sf_getr hI0 rfl rfl ?_
        refine sf_iload rfl ?_
        refine sf_iald hI0 rfl (by omega) (fun v3 lv3 uv3 ev3 => ?_)
        clear lv3 uv3
        clear ev3
        refine sf_iload rfl ?_
        refine sf_f2_eq (fun h4 => ?_) (fun h4 => ?_)
        · refine sf_aload rfl ?_
          refine sf_getr hI0 rfl rfl ?_
          refine sf_iload rfl ?_
          refine sf_zald hI0 rfl (by omega) (fun v5 lv5 uv5 ev5 => ?_)
          clear ev5
          refine sf_f1_eq (fun h6 => ?_) (fun h6 => ?_)
          · refine sf_iload rfl ?_
            refine sf_istore (L' := [(0, .inl (.ref 71)), (1, .inl (.int a_good)), (2, .inl (.int a_byWork)), (4, .inl (.int x4))]) rfl ?_
            refine sf_iinc (L' := [(3, .inl (.int x3)), (0, .inl (.ref 71)), (1, .inl (.int a_good)), (2, .inl (.int a_byWork))]) sf_c1 rfl rfl (by omega) (fun v7 ev7 => ?_)
            refine sf_can (L' := [(0, .inl (.ref 71)), (1, .inl (.int a_good)), (2, .inl (.int a_byWork)), (3, .inl (.int x3)), (4, .inl (.int v7))]) rfl ?_
            exact i_5 x3 v7 (by omega) (by omega) (by omega)
          · refine sf_aload rfl ?_
            refine sf_getr hI0 rfl rfl ?_
            refine sf_iload rfl ?_
            refine sf_zald hI0 rfl (by omega) (fun v8 lv8 uv8 ev8 => ?_)
            clear ev8
            refine sf_iload rfl ?_
            refine sf_f2_eq (fun h9 => ?_) (fun h9 => ?_)
            · refine sf_iload rfl ?_
              refine sf_aload rfl ?_
              refine sf_getr hI0 rfl rfl ?_
              refine sf_iload rfl ?_
              refine sf_iald hI0 rfl (by omega) (fun v10 lv10 uv10 ev10 => ?_)
              refine sf_i2 (fun v11 => ?_)
              refine sf_istore (L' := [(0, .inl (.ref 71)), (1, .inl (.int a_good)), (2, .inl (.int a_byWork)), (4, .inl (.int x4))]) rfl ?_
              refine sf_iinc (L' := [(3, .inl (.int v11)), (0, .inl (.ref 71)), (1, .inl (.int a_good)), (2, .inl (.int a_byWork))]) sf_c1 rfl rfl (by omega) (fun v12 ev12 => ?_)
              refine sf_can (L' := [(0, .inl (.ref 71)), (1, .inl (.int a_good)), (2, .inl (.int a_byWork)), (3, .inl (.int v11)), (4, .inl (.int v12))]) rfl ?_
              exact i_5 v11 v12 (by omega) (by omega) (by omega)
            · refine sf_iload rfl ?_
              refine sf_istore (L' := [(0, .inl (.ref 71)), (1, .inl (.int a_good)), (2, .inl (.int a_byWork)), (4, .inl (.int x4))]) rfl ?_
              refine sf_iinc (L' := [(3, .inl (.int x3)), (0, .inl (.ref 71)), (1, .inl (.int a_good)), (2, .inl (.int a_byWork))]) sf_c1 rfl rfl (by omega) (fun v13 ev13 => ?_)
              refine sf_can (L' := [(0, .inl (.ref 71)), (1, .inl (.int a_good)), (2, .inl (.int a_byWork)), (3, .inl (.int x3)), (4, .inl (.int v13))]) rfl ?_
              exact i_5 x3 v13 (by omega) (by omega) (by omega)
        · refine sf_iload rfl ?_
          refine sf_istore (L' := [(0, .inl (.ref 71)), (1, .inl (.int a_good)), (2, .inl (.int a_byWork)), (4, .inl (.int x4))]) rfl ?_
          refine sf_iinc (L' := [(3, .inl (.int x3)), (0, .inl (.ref 71)), (1, .inl (.int a_good)), (2, .inl (.int a_byWork))]) sf_c1 rfl rfl (by omega) (fun v14 ev14 => ?_)
          refine sf_can (L' := [(0, .inl (.ref 71)), (1, .inl (.int a_good)), (2, .inl (.int a_byWork)), (3, .inl (.int x3)), (4, .inl (.int v14))]) rfl ?_
          exact i_5 x3 v14 (by omega) (by omega) (by omega)
  have hl1 := hl 1000000000000
  have i_5 := hl1
  clear hl hl1
  refine sf_sp (L := [(0, .inl (.ref 71)), (1, .inl (.int a_good)), (2, .inl (.int a_byWork))]) rfl rfl ?_
  generalize ku_M_came rt xt 1000000000000 = K at i_5 ⊢
  refine sf_iconst sf_c0 (fun z15 ez15 => ?_)
  refine sf_istore (L' := [(0, .inl (.ref 71)), (1, .inl (.int a_good)), (2, .inl (.int a_byWork))]) rfl ?_
  refine sf_iconst sf_c0 (fun z16 ez16 => ?_)
  refine sf_istore (L' := [(3, .inl (.int z15)), (0, .inl (.ref 71)), (1, .inl (.int a_good)), (2, .inl (.int a_byWork))]) rfl ?_
  refine sf_can (L' := [(0, .inl (.ref 71)), (1, .inl (.int a_good)), (2, .inl (.int a_byWork)), (3, .inl (.int z15)), (4, .inl (.int z16))]) rfl ?_
  exact i_5 z15 z16 (by omega) (by omega) (by omega)
