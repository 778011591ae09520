def sm_M_depthOf : List Nat := []
set_option maxRecDepth 100000 in
set_option maxHeartbeats 4000000 in
theorem sc_M_depthOf {w0 : wq_W} (hI0 : sf_I w0) {rt : Option wq_V → wq_W → Prop} {xt : Nat → wq_W → Prop} {a_h : Int32} (p0 : 0 ≤ a_h.toInt) (p1 : a_h.toInt ≤ 23) (p2 : 0 < (sf_f w0 71 1).toInt) (hR : ∀ (r : Int32), rt (some (.inl (.int r))) w0) : ks_M_depthOf [.inl (.ref 71), .inl (.int a_h)] w0 rt xt := by
  have hl : ∀ n : Nat, (∀ (x2 : Int32) (x3 : Int32), ((-1) ≤ x3.toInt) → (x3.toInt ≤ 23) → (x3.toInt + 1 < (n : Int)) → ku_M_depthOf rt xt n 9 [(0, .inl (.ref 71)), (2, .inl (.int x2)), (3, .inl (.int x3))] [] w0 0 0) := by
    intro n
    induction n with
    | zero =>
      refine ?_
      · intros; omega
    | succ n ih =>
      have i_9 := ih
      intro x2 x3 l_x3 u_x3 hm
      show kh_M_depthOf_9 rt xt (ku_M_depthOf rt xt n) [(0, .inl (.ref 71)), (2, .inl (.int x2)), (3, .inl (.int x3))] [] w0 0 0
      generalize ku_M_depthOf rt xt n = K at i_9 ⊢
      refine sf_iload rfl ?_
      refine sf_f1_lt (fun h1 => ?_) (fun h1 => ?_)
      · refine sf_iload rfl ?_
        refine sf_ireturn rfl rfl ?_
        exact hR _ 
      · refine sf_iincw (L' := [(0, .inl (.ref 71)), (3, .inl (.int x3))]) rfl rfl (fun v2 => ?_)
        refine sf_aload rfl ?_
        refine sf_getr hI0 rfl rfl ?_
        refine sf_iload rfl ?_
        refine sf_iald hI0 rfl (by omega) (fun v3 lv3 uv3 ev3 => ?_)
        have r1 := sf_R1p hI0 (by omega) (i := x3) (by omega)
        refine sf_istore (L' := [(2, .inl (.int v2)), (0, .inl (.ref 71))]) rfl ?_
        refine sf_can (L' := [(0, .inl (.ref 71)), (2, .inl (.int v2)), (3, .inl (.int v3))]) rfl ?_
        exact i_9 v2 v3 (by omega) (by omega) (by omega)
  have hl1 := hl 1000000000000
  have i_9 := hl1
  clear hl hl1
  refine sf_sp (L := [(0, .inl (.ref 71)), (1, .inl (.int a_h))]) rfl rfl ?_
  generalize ku_M_depthOf rt xt 1000000000000 = K at i_9 ⊢
  refine sf_iconst sf_c0 (fun z4 ez4 => ?_)
  refine sf_istore (L' := [(0, .inl (.ref 71)), (1, .inl (.int a_h))]) rfl ?_
  refine sf_aload rfl ?_
  refine sf_getr hI0 rfl rfl ?_
  refine sf_iload rfl ?_
  refine sf_iald hI0 rfl (by omega) (fun v5 lv5 uv5 ev5 => ?_)
  have r1 := sf_R1p hI0 (by omega) (i := a_h) (by omega)
  refine sf_istore (L' := [(2, .inl (.int z4)), (0, .inl (.ref 71)), (1, .inl (.int a_h))]) rfl ?_
  refine sf_can (L' := [(0, .inl (.ref 71)), (2, .inl (.int z4)), (3, .inl (.int v5))]) rfl ?_
  exact i_9 z4 v5 (by omega) (by omega) (by omega)
def sm_M_depthOf_J : List Nat := []
set_option maxRecDepth 100000 in
set_option maxHeartbeats 4000000 in
theorem sc_M_depthOf_J {w0 : wq_W} (hI0 : sf_I w0) {rt : Option wq_V → wq_W → Prop} {xt : Nat → wq_W → Prop} {a_h : Int32} (p0 : 0 ≤ a_h.toInt) (p1 : a_h.toInt ≤ 23) (p2 : 0 < (sf_f w0 71 1).toInt) (p3 : a_h.toInt < (sf_f w0 71 1).toInt) (p4 : sf_J (sf_a w0 3) (sf_a w0 72) (sf_f w0 71 1).toInt) (hR : ∀ (r : Int32), 0 ≤ r.toInt → r.toInt ≤ 5 → (r.toInt = (sf_a w0 3 a_h.toInt.toNat).toInt) → (r.toInt ≤ 5) → rt (some (.inl (.int r))) w0) : ks_M_depthOf [.inl (.ref 71), .inl (.int a_h)] w0 rt xt := by
  have ph := p4 a_h.toInt.toNat (by omega)
  have hl : ∀ n : Nat, (∀ (x2 : Int32) (x3 : Int32), (0 ≤ x2.toInt) → (x2.toInt ≤ 5) → ((-1) ≤ x3.toInt) → (x3.toInt ≤ 23) → (x3.toInt < (sf_f w0 71 1).toInt) → ((x3.toInt ≠ -1 ∨ x2.toInt = (sf_a w0 3 a_h.toInt.toNat).toInt) ∧ (x3.toInt < 0 ∨ x2.toInt + (sf_a w0 3 x3.toInt.toNat).toInt + 1 = (sf_a w0 3 a_h.toInt.toNat).toInt)) → (x3.toInt + 1 < (n : Int)) → ku_M_depthOf rt xt n 9 [(0, .inl (.ref 71)), (2, .inl (.int x2)), (3, .inl (.int x3))] [] w0 0 0) := by
    intro n
    induction n with
    | zero =>
      refine ?_
      · intros; omega
    | succ n ih =>
      have i_9 := ih
      intro x2 x3 l_x2 u_x2 l_x3 u_x3 f_0 f_1 hm
      show kh_M_depthOf_9 rt xt (ku_M_depthOf rt xt n) [(0, .inl (.ref 71)), (2, .inl (.int x2)), (3, .inl (.int x3))] [] w0 0 0
      generalize ku_M_depthOf rt xt n = K at i_9 ⊢
      refine sf_iload rfl ?_
      refine sf_f1_lt (fun h1 => ?_) (fun h1 => ?_)
      · refine sf_iload rfl ?_
        refine sf_ireturn rfl rfl ?_
        exact hR _ (by omega) (by omega) (by omega) (by omega)
      · refine sf_iinc (L' := [(0, .inl (.ref 71)), (3, .inl (.int x3))]) sf_c1 rfl rfl (by omega) (fun v2 ev2 => ?_)
        refine sf_aload rfl ?_
        refine sf_getr hI0 rfl rfl ?_
        refine sf_iload rfl ?_
        refine sf_iald hI0 rfl (by omega) (fun v3 lv3 uv3 ev3 => ?_)
        have r1 := sf_R1p hI0 (by omega) (i := x3) (by omega)
        have r2 := p4 x3.toInt.toNat (by omega)
        rw [← ev3] at r2
        refine sf_istore (L' := [(2, .inl (.int v2)), (0, .inl (.ref 71))]) rfl ?_
        refine sf_can (L' := [(0, .inl (.ref 71)), (2, .inl (.int v2)), (3, .inl (.int v3))]) rfl ?_
        exact i_9 v2 v3 (by omega) (by omega) (by omega) (by omega) (by omega) (by omega) (by omega)
  have hl1 := hl 1000000000000
  have i_9 := hl1
  clear hl hl1
  refine sf_sp (L := [(0, .inl (.ref 71)), (1, .inl (.int a_h))]) rfl rfl ?_
  generalize ku_M_depthOf rt xt 1000000000000 = K at i_9 ⊢
  refine sf_iconst sf_c0 (fun z4 ez4 => ?_)
  refine sf_istore (L' := [(0, .inl (.ref 71)), (1, .inl (.int a_h))]) rfl ?_
  refine sf_aload rfl ?_
  refine sf_getr hI0 rfl rfl ?_
  refine sf_iload rfl ?_
  refine sf_iald hI0 rfl (by omega) (fun v5 lv5 uv5 ev5 => ?_)
  have r1 := sf_R1p hI0 (by omega) (i := a_h) (by omega)
  have r2 := p4 a_h.toInt.toNat (by omega)
  rw [← ev5] at r2
  refine sf_istore (L' := [(2, .inl (.int z4)), (0, .inl (.ref 71)), (1, .inl (.int a_h))]) rfl ?_
  refine sf_can (L' := [(0, .inl (.ref 71)), (2, .inl (.int z4)), (3, .inl (.int v5))]) rfl ?_
  exact i_9 z4 v5 (by omega) (by omega) (by omega) (by omega) (by omega) (by omega) (by omega)
def sm_M_isUnder : List Nat := []
set_option maxRecDepth 100000 in
set_option maxHeartbeats 4000000 in
theorem sc_M_isUnder {w0 : wq_W} (hI0 : sf_I w0) {rt : Option wq_V → wq_W → Prop} {xt : Nat → wq_W → Prop} {a_h : Int32} {a_other : Int32} (p0 : 0 ≤ a_h.toInt) (p1 : a_h.toInt ≤ 23) (p2 : 0 < (sf_f w0 71 1).toInt) (hR : ∀ (r : Int32), 0 ≤ r.toInt → r.toInt ≤ 1 → rt (some (.inl (.int r))) w0) : ks_M_isUnder [.inl (.ref 71), .inl (.int a_h), .inl (.int a_other)] w0 rt xt := by
  have hl : ∀ n : Nat, (∀ (x3 : Int32), ((-1) ≤ x3.toInt) → (x3.toInt ≤ 23) → (x3.toInt + 1 < (n : Int)) → ku_M_isUnder rt xt n 2 [(0, .inl (.ref 71)), (2, .inl (.int a_other)), (3, .inl (.int x3))] [] w0 0 0) := by
    intro n
    induction n with
    | zero =>
      refine ?_
      · intros; omega
    | succ n ih =>
      have i_2 := ih
      intro x3 l_x3 u_x3 hm
      show kh_M_isUnder_2 rt xt (ku_M_isUnder rt xt n) [(0, .inl (.ref 71)), (2, .inl (.int a_other)), (3, .inl (.int x3))] [] w0 0 0
      generalize ku_M_isUnder rt xt n = K at i_2 ⊢
      refine sf_iload rfl ?_
      refine sf_f1_lt (fun h1 => ?_) (fun h1 => ?_)
      · refine sf_iload rfl ?_
        refine sf_f1_lt (fun h2 => ?_) (fun h2 => absurd h2 (by omega))
        refine sf_iconst sf_c0 (fun z3 ez3 => ?_)
        refine sf_zreturn (by omega) rfl rfl ?_
        exact hR _ (by omega) (by omega) 
      · refine sf_iload rfl ?_
        refine sf_iload rfl ?_
        refine sf_f2_eq (fun h4 => ?_) (fun h4 => ?_)
        · refine sf_iload rfl ?_
          refine sf_f1_lt (fun h5 => absurd h5 (by omega)) (fun h5 => ?_)
          refine sf_iconst sf_c1 (fun z6 ez6 => ?_)
          refine sf_zreturn (by omega) rfl rfl ?_
          exact hR _ (by omega) (by omega) 
        · refine sf_aload rfl ?_
          refine sf_getr hI0 rfl rfl ?_
          refine sf_iload rfl ?_
          refine sf_iald hI0 rfl (by omega) (fun v7 lv7 uv7 ev7 => ?_)
          have r1 := sf_R1p hI0 (by omega) (i := x3) (by omega)
          refine sf_istore (L' := [(0, .inl (.ref 71)), (2, .inl (.int a_other))]) rfl ?_
          refine sf_can (L' := [(0, .inl (.ref 71)), (2, .inl (.int a_other)), (3, .inl (.int v7))]) rfl ?_
          exact i_2 v7 (by omega) (by omega) (by omega)
  have hl1 := hl 1000000000000
  have i_2 := hl1
  clear hl hl1
  refine sf_sp (L := [(0, .inl (.ref 71)), (1, .inl (.int a_h)), (2, .inl (.int a_other))]) rfl rfl ?_
  generalize ku_M_isUnder rt xt 1000000000000 = K at i_2 ⊢
  refine sf_iload rfl ?_
  refine sf_istore (L' := [(0, .inl (.ref 71)), (1, .inl (.int a_h)), (2, .inl (.int a_other))]) rfl ?_
  refine sf_can (L' := [(0, .inl (.ref 71)), (2, .inl (.int a_other)), (3, .inl (.int a_h))]) rfl ?_
  exact i_2 a_h (by omega) (by omega) (by omega)
def sm_M_holds : List Nat := []
set_option maxRecDepth 100000 in
set_option maxHeartbeats 4000000 in
theorem sc_M_holds {w0 : wq_W} (hI0 : sf_I w0) {rt : Option wq_V → wq_W → Prop} {xt : Nat → wq_W → Prop} {a_n : Int32} {a_good : Int32} (p0 : 0 ≤ a_n.toInt) (p1 : a_n.toInt ≤ 39) (p2 : 0 ≤ a_good.toInt) (p3 : a_good.toInt ≤ 15) (hR : ∀ (r : Int32), 0 ≤ r.toInt → r.toInt ≤ 1 → rt (some (.inl (.int r))) w0) : ks_M_holds [.inl (.ref 71), .inl (.int a_n), .inl (.int a_good)] w0 rt xt := by
  have hl : ∀ n : Nat, (∀ (x3 : Int32) (x4 : Int32) (x5 : Int32), (0 ≤ x4.toInt) → (x4.toInt ≤ 1) → (0 ≤ x5.toInt) → (x5.toInt ≤ 4) → (4 - x5.toInt < (n : Int)) → ku_M_holds rt xt n 63 [(0, .inl (.ref 71)), (1, .inl (.int a_n)), (2, .inl (.int a_good)), (3, .inl (.int x3)), (4, .inl (.int x4)), (5, .inl (.int x5))] [] w0 0 0) := by
    intro n
    induction n with
    | zero =>
      refine ?_
      · intros; omega
    | succ n ih =>
      have i_63 := ih
      intro x3 x4 x5 l_x4 u_x4 l_x5 u_x5 hm
      show kh_M_holds_63 rt xt (ku_M_holds rt xt n) [(0, .inl (.ref 71)), (1, .inl (.int a_n)), (2, .inl (.int a_good)), (3, .inl (.int x3)), (4, .inl (.int x4)), (5, .inl (.int x5))] [] w0 0 0
      generalize ku_M_holds rt xt n = K at i_63 ⊢
      refine sf_iload rfl ?_
      refine sf_iconst sf_c4 (fun z1 ez1 => ?_)
      refine sf_f2_ge (fun h2 => ?_) (fun h2 => ?_)
      · refine sf_iload rfl ?_
        refine sf_zreturn (by omega) rfl rfl ?_
        exact hR _ (by omega) (by omega) 
      · refine sf_aload rfl ?_
        refine sf_getr hI0 rfl rfl ?_
        refine sf_iload rfl ?_
        refine sf_iald hI0 rfl (by omega) (fun v3 lv3 uv3 ev3 => ?_)
        clear lv3 uv3
        clear ev3
        refine sf_iconst sf_c2 (fun z4 ez4 => ?_)
        refine sf_f2_eq (fun h5 => ?_) (fun h5 => ?_)
        · refine sf_iload rfl ?_
          refine sf_f1_eq (fun h6 => ?_) (fun h6 => ?_)
          · refine sf_iconst sf_c0 (fun z7 ez7 => ?_)
            refine sf_istore (L' := [(0, .inl (.ref 71)), (1, .inl (.int a_n)), (2, .inl (.int a_good)), (3, .inl (.int x3)), (5, .inl (.int x5))]) rfl ?_
            refine sf_iinc (L' := [(4, .inl (.int z7)), (0, .inl (.ref 71)), (1, .inl (.int a_n)), (2, .inl (.int a_good)), (3, .inl (.int x3))]) sf_c1 rfl rfl (by omega) (fun v8 ev8 => ?_)
            refine sf_can (L' := [(0, .inl (.ref 71)), (1, .inl (.int a_n)), (2, .inl (.int a_good)), (3, .inl (.int x3)), (4, .inl (.int z7)), (5, .inl (.int v8))]) rfl ?_
            exact i_63 x3 z7 v8 (by omega) (by omega) (by omega) (by omega) (by omega)
          · refine sf_aload rfl ?_
            refine sf_getr hI0 rfl rfl ?_
            refine sf_iconst sf_c8 (fun z9 ez9 => ?_)
            refine sf_iload rfl ?_
            refine sf_imull (n := 8) (by omega) (by omega) (fun v10 ev10 => ?_)
            refine sf_iload rfl ?_
            refine sf_iadd (by omega) (fun v11 ev11 => ?_)
            refine sf_iald hI0 rfl (by omega) (fun v12 lv12 uv12 ev12 => ?_)
            clear lv12 uv12
            clear ev12
            refine sf_iload rfl ?_
            refine sf_f2_gt (fun h13 => ?_) (fun h13 => ?_)
            · refine sf_iconst sf_c0 (fun z14 ez14 => ?_)
              refine sf_istore (L' := [(0, .inl (.ref 71)), (1, .inl (.int a_n)), (2, .inl (.int a_good)), (3, .inl (.int x3)), (5, .inl (.int x5))]) rfl ?_
              refine sf_iinc (L' := [(4, .inl (.int z14)), (0, .inl (.ref 71)), (1, .inl (.int a_n)), (2, .inl (.int a_good)), (3, .inl (.int x3))]) sf_c1 rfl rfl (by omega) (fun v15 ev15 => ?_)
              refine sf_can (L' := [(0, .inl (.ref 71)), (1, .inl (.int a_n)), (2, .inl (.int a_good)), (3, .inl (.int x3)), (4, .inl (.int z14)), (5, .inl (.int v15))]) rfl ?_
              exact i_63 x3 z14 v15 (by omega) (by omega) (by omega) (by omega) (by omega)
            · refine sf_iconst sf_c1 (fun z16 ez16 => ?_)
              refine sf_istore (L' := [(0, .inl (.ref 71)), (1, .inl (.int a_n)), (2, .inl (.int a_good)), (3, .inl (.int x3)), (5, .inl (.int x5))]) rfl ?_
              refine sf_iinc (L' := [(4, .inl (.int z16)), (0, .inl (.ref 71)), (1, .inl (.int a_n)), (2, .inl (.int a_good)), (3, .inl (.int x3))]) sf_c1 rfl rfl (by omega) (fun v17 ev17 => ?_)
              refine sf_can (L' := [(0, .inl (.ref 71)), (1, .inl (.int a_n)), (2, .inl (.int a_good)), (3, .inl (.int x3)), (4, .inl (.int z16)), (5, .inl (.int v17))]) rfl ?_
              exact i_63 x3 z16 v17 (by omega) (by omega) (by omega) (by omega) (by omega)
        · refine sf_iload rfl ?_
          refine sf_zreturn (by omega) rfl rfl ?_
          exact hR _ (by omega) (by omega) 
  have hl1 := hl 1000000000000
  have i_63 := hl1
  clear hl hl1
  refine sf_sp (L := [(0, .inl (.ref 71)), (1, .inl (.int a_n)), (2, .inl (.int a_good))]) rfl rfl ?_
  generalize ku_M_holds rt xt 1000000000000 = K at i_63 ⊢
  refine sf_aload rfl ?_
  refine sf_getr hI0 rfl rfl ?_
  refine sf_iconst sf_c8 (fun z18 ez18 => ?_)
  refine sf_iload rfl ?_
  refine sf_imull (n := 8) (by omega) (by omega) (fun v19 ev19 => ?_)
  refine sf_aload rfl ?_
  refine sf_getr hI0 rfl rfl ?_
  refine sf_iload rfl ?_
  refine sf_iald hI0 rfl (by omega) (fun v20 lv20 uv20 ev20 => ?_)
  clear ev20
  refine sf_iadd (by omega) (fun v21 ev21 => ?_)
  refine sf_iald hI0 rfl (by omega) (fun v22 lv22 uv22 ev22 => ?_)
  clear lv22 uv22
  clear ev22
  refine sf_istore (L' := [(0, .inl (.ref 71)), (1, .inl (.int a_n)), (2, .inl (.int a_good))]) rfl ?_
  refine sf_aload rfl ?_
  refine sf_getr hI0 rfl rfl ?_
  refine sf_iload rfl ?_
  refine sf_iald hI0 rfl (by omega) (fun v23 lv23 uv23 ev23 => ?_)
  clear lv23 uv23
  clear ev23
  refine sf_iconst sf_c1 (fun z24 ez24 => ?_)
  refine sf_f2_eq (fun h25 => ?_) (fun h25 => ?_)
  · refine sf_iload rfl ?_
    refine sf_aload rfl ?_
    refine sf_getr hI0 rfl rfl ?_
    refine sf_iload rfl ?_
    refine sf_iald hI0 rfl (by omega) (fun v26 lv26 uv26 ev26 => ?_)
    clear lv26 uv26
    clear ev26
    refine sf_f2_ge (fun h27 => ?_) (fun h27 => ?_)
    · refine sf_iconst sf_c0 (fun z28 ez28 => ?_)
      refine sf_zreturn (by omega) rfl rfl ?_
      exact hR _ (by omega) (by omega) 
    · refine sf_iconst sf_c1 (fun z29 ez29 => ?_)
      refine sf_zreturn (by omega) rfl rfl ?_
      exact hR _ (by omega) (by omega) 
  · refine sf_iload rfl ?_
    refine sf_aload rfl ?_
    refine sf_getr hI0 rfl rfl ?_
    refine sf_iload rfl ?_
    refine sf_iald hI0 rfl (by omega) (fun v30 lv30 uv30 ev30 => ?_)
    clear lv30 uv30
    clear ev30
    refine sf_f2_lt (fun h31 => ?_) (fun h31 => ?_)
    · refine sf_iconst sf_c0 (fun z32 ez32 => ?_)
      refine sf_istore (L' := [(3, .inl (.int v22)), (0, .inl (.ref 71)), (1, .inl (.int a_n)), (2, .inl (.int a_good))]) rfl ?_
      refine sf_iconst sf_c0 (fun z33 ez33 => ?_)
      refine sf_istore (L' := [(4, .inl (.int z32)), (3, .inl (.int v22)), (0, .inl (.ref 71)), (1, .inl (.int a_n)), (2, .inl (.int a_good))]) rfl ?_
      refine sf_can (L' := [(0, .inl (.ref 71)), (1, .inl (.int a_n)), (2, .inl (.int a_good)), (3, .inl (.int v22)), (4, .inl (.int z32)), (5, .inl (.int z33))]) rfl ?_
      exact i_63 v22 z32 z33 (by omega) (by omega) (by omega) (by omega) (by omega)
    · refine sf_iconst sf_c1 (fun z34 ez34 => ?_)
      refine sf_istore (L' := [(3, .inl (.int v22)), (0, .inl (.ref 71)), (1, .inl (.int a_n)), (2, .inl (.int a_good))]) rfl ?_
      refine sf_iconst sf_c0 (fun z35 ez35 => ?_)
      refine sf_istore (L' := [(4, .inl (.int z34)), (3, .inl (.int v22)), (0, .inl (.ref 71)), (1, .inl (.int a_n)), (2, .inl (.int a_good))]) rfl ?_
      refine sf_can (L' := [(0, .inl (.ref 71)), (1, .inl (.int a_n)), (2, .inl (.int a_good)), (3, .inl (.int v22)), (4, .inl (.int z34)), (5, .inl (.int z35))]) rfl ?_
      exact i_63 v22 z34 z35 (by omega) (by omega) (by omega) (by omega) (by omega)
def sm_M_fits : List Nat := []
set_option maxRecDepth 100000 in
set_option maxHeartbeats 4000000 in
theorem sc_M_fits {w0 : wq_W} (hI0 : sf_I w0) {rt : Option wq_V → wq_W → Prop} {xt : Nat → wq_W → Prop} {a_h : Int32} {a_good : Int32} (p0 : 0 ≤ a_h.toInt) (p1 : a_h.toInt ≤ 23) (p2 : 0 ≤ a_good.toInt) (p3 : a_good.toInt ≤ 15) (p4 : 0 < (sf_f w0 71 1).toInt) (hR : ∀ (r : Int32), 0 ≤ r.toInt → r.toInt ≤ 1 → rt (some (.inl (.int r))) w0) : ks_M_fits [.inl (.ref 71), .inl (.int a_h), .inl (.int a_good)] w0 rt xt := by
  have hl : ∀ n : Nat, (∀ (x3 : Int32) (x4 : Int32), (0 ≤ x3.toInt) → (x3.toInt ≤ 1) → (0 ≤ x4.toInt) → (x4.toInt ≤ 40) → (40 - x4.toInt < (n : Int)) → ku_M_fits rt xt n 5 [(0, .inl (.ref 71)), (1, .inl (.int a_h)), (2, .inl (.int a_good)), (3, .inl (.int x3)), (4, .inl (.int x4))] [] w0 0 0) := by
    intro n
    induction n with
    | zero =>
      refine ?_
      · intros; omega
    | succ n ih =>
      have i_5 := ih
      intro x3 x4 l_x3 u_x3 l_x4 u_x4 hm
      show kh_M_fits_5 rt xt (ku_M_fits rt xt n) [(0, .inl (.ref 71)), (1, .inl (.int a_h)), (2, .inl (.int a_good)), (3, .inl (.int x3)), (4, .inl (.int x4))] [] w0 0 0
      generalize ku_M_fits rt xt n = K at i_5 ⊢
      refine sf_iload rfl ?_
      refine sf_aload rfl ?_
      refine sf_geti hI0 rfl rfl (fun v1 lv1 uv1 ev1 => ?_)
      refine sf_f2_ge (fun h2 => ?_) (fun h2 => ?_)
      · refine sf_iload rfl ?_
        refine sf_zreturn (by omega) rfl rfl ?_
        exact hR _ (by omega) (by omega) 
      · refine sf_iload rfl ?_
        refine sf_f1_eq (fun h3 => ?_) (fun h3 => ?_)
        · refine sf_iconst sf_c0 (fun z4 ez4 => ?_)
          refine sf_istore (L' := [(0, .inl (.ref 71)), (1, .inl (.int a_h)), (2, .inl (.int a_good)), (4, .inl (.int x4))]) rfl ?_
          refine sf_iinc (L' := [(3, .inl (.int z4)), (0, .inl (.ref 71)), (1, .inl (.int a_h)), (2, .inl (.int a_good))]) sf_c1 rfl rfl (by omega) (fun v5 ev5 => ?_)
          refine sf_can (L' := [(0, .inl (.ref 71)), (1, .inl (.int a_h)), (2, .inl (.int a_good)), (3, .inl (.int z4)), (4, .inl (.int v5))]) rfl ?_
          exact i_5 z4 v5 (by omega) (by omega) (by omega) (by omega) (by omega)
        · refine sf_aload rfl ?_
          refine sf_iload rfl ?_
          refine sf_aload rfl ?_
          refine sf_getr hI0 rfl rfl ?_
          refine sf_iload rfl ?_
          refine sf_iald hI0 rfl (by omega) (fun v6 lv6 uv6 ev6 => ?_)
          clear lv6 uv6
          clear ev6
          refine sf_call3 rfl rfl rfl ?_
          refine sf_rv hI0 rfl ?_
          refine sc_M_isUnder hI0 (by omega) (by omega) (by omega) (fun v7 lv7 uv7 => ?_)
          refine sf_f1_eq (fun h9 => ?_) (fun h9 => ?_)
          · refine sf_iconst sf_c1 (fun z10 ez10 => ?_)
            refine sf_istore (L' := [(0, .inl (.ref 71)), (1, .inl (.int a_h)), (2, .inl (.int a_good)), (4, .inl (.int x4))]) rfl ?_
            refine sf_iinc (L' := [(3, .inl (.int z10)), (0, .inl (.ref 71)), (1, .inl (.int a_h)), (2, .inl (.int a_good))]) sf_c1 rfl rfl (by omega) (fun v11 ev11 => ?_)
            refine sf_can (L' := [(0, .inl (.ref 71)), (1, .inl (.int a_h)), (2, .inl (.int a_good)), (3, .inl (.int z10)), (4, .inl (.int v11))]) rfl ?_
            exact i_5 z10 v11 (by omega) (by omega) (by omega) (by omega) (by omega)
          · refine sf_aload rfl ?_
            refine sf_iload rfl ?_
            refine sf_iload rfl ?_
            refine sf_call3 rfl rfl rfl ?_
            refine sf_rv hI0 rfl ?_
            refine sc_M_holds hI0 (by omega) (by omega) (by omega) (by omega) (fun v12 lv12 uv12 => ?_)
            refine sf_f1_eq (fun h14 => ?_) (fun h14 => ?_)
            · refine sf_iconst sf_c0 (fun z15 ez15 => ?_)
              refine sf_istore (L' := [(0, .inl (.ref 71)), (1, .inl (.int a_h)), (2, .inl (.int a_good)), (4, .inl (.int x4))]) rfl ?_
              refine sf_iinc (L' := [(3, .inl (.int z15)), (0, .inl (.ref 71)), (1, .inl (.int a_h)), (2, .inl (.int a_good))]) sf_c1 rfl rfl (by omega) (fun v16 ev16 => ?_)
              refine sf_can (L' := [(0, .inl (.ref 71)), (1, .inl (.int a_h)), (2, .inl (.int a_good)), (3, .inl (.int z15)), (4, .inl (.int v16))]) rfl ?_
              exact i_5 z15 v16 (by omega) (by omega) (by omega) (by omega) (by omega)
            · refine sf_iconst sf_c1 (fun z17 ez17 => ?_)
              refine sf_istore (L' := [(0, .inl (.ref 71)), (1, .inl (.int a_h)), (2, .inl (.int a_good)), (4, .inl (.int x4))]) rfl ?_
              refine sf_iinc (L' := [(3, .inl (.int z17)), (0, .inl (.ref 71)), (1, .inl (.int a_h)), (2, .inl (.int a_good))]) sf_c1 rfl rfl (by omega) (fun v18 ev18 => ?_)
              refine sf_can (L' := [(0, .inl (.ref 71)), (1, .inl (.int a_h)), (2, .inl (.int a_good)), (3, .inl (.int z17)), (4, .inl (.int v18))]) rfl ?_
              exact i_5 z17 v18 (by omega) (by omega) (by omega) (by omega) (by omega)
  have hl1 := hl 1000000000000
  have i_5 := hl1
  clear hl hl1
  refine sf_sp (L := [(0, .inl (.ref 71)), (1, .inl (.int a_h)), (2, .inl (.int a_good))]) rfl rfl ?_
  generalize ku_M_fits rt xt 1000000000000 = K at i_5 ⊢
  refine sf_iconst sf_c1 (fun z19 ez19 => ?_)
  refine sf_istore (L' := [(0, .inl (.ref 71)), (1, .inl (.int a_h)), (2, .inl (.int a_good))]) rfl ?_
  refine sf_iconst sf_c0 (fun z20 ez20 => ?_)
  refine sf_istore (L' := [(3, .inl (.int z19)), (0, .inl (.ref 71)), (1, .inl (.int a_h)), (2, .inl (.int a_good))]) rfl ?_
  refine sf_can (L' := [(0, .inl (.ref 71)), (1, .inl (.int a_h)), (2, .inl (.int a_good)), (3, .inl (.int z19)), (4, .inl (.int z20))]) rfl ?_
  exact i_5 z19 z20 (by omega) (by omega) (by omega) (by omega) (by omega)
def sm_M_shareOf : List Nat := []
set_option maxRecDepth 100000 in
set_option maxHeartbeats 4000000 in
theorem sc_M_shareOf {w0 : wq_W} (hI0 : sf_I w0) {rt : Option wq_V → wq_W → Prop} {xt : Nat → wq_W → Prop} {a_h : Int32} {a_good : Int32} (p0 : 0 ≤ a_h.toInt) (p1 : a_h.toInt ≤ 23) (p2 : 0 ≤ a_good.toInt) (p3 : a_good.toInt ≤ 15) (p4 : 0 < (sf_f w0 71 1).toInt) (hR : ∀ (r : Int32), rt (some (.inl (.int r))) w0) : ks_M_shareOf [.inl (.ref 71), .inl (.int a_h), .inl (.int a_good)] w0 rt xt := by
  have hl : ∀ n : Nat, (∀ (x3 : Int32) (x4 : Int32), (0 ≤ x4.toInt) → (x4.toInt ≤ 40) → (40 - x4.toInt < (n : Int)) → ku_M_shareOf rt xt n 5 [(0, .inl (.ref 71)), (1, .inl (.int a_h)), (2, .inl (.int a_good)), (3, .inl (.int x3)), (4, .inl (.int x4))] [] w0 0 0) := by
    intro n
    induction n with
    | zero =>
      refine ?_
      · intros; omega
    | succ n ih =>
      have i_5 := ih
      intro x3 x4 l_x4 u_x4 hm
      show kh_M_shareOf_5 rt xt (ku_M_shareOf rt xt n) [(0, .inl (.ref 71)), (1, .inl (.int a_h)), (2, .inl (.int a_good)), (3, .inl (.int x3)), (4, .inl (.int x4))] [] w0 0 0
      generalize ku_M_shareOf rt xt n = K at i_5 ⊢
      refine sf_iload rfl ?_
      refine sf_aload rfl ?_
      refine sf_geti hI0 rfl rfl (fun v1 lv1 uv1 ev1 => ?_)
      refine sf_f2_ge (fun h2 => ?_) (fun h2 => ?_)
      · refine sf_iload rfl ?_
        refine sf_ireturn rfl rfl ?_
        exact hR _ 
      · refine sf_aload rfl ?_
        refine sf_getr hI0 rfl rfl ?_
        refine sf_iconst sf_c8 (fun z3 ez3 => ?_)
        refine sf_iload rfl ?_
        refine sf_imull (n := 8) (by omega) (by omega) (fun v4 ev4 => ?_)
        refine sf_aload rfl ?_
        refine sf_getr hI0 rfl rfl ?_
        refine sf_iload rfl ?_
        refine sf_iald hI0 rfl (by omega) (fun v5 lv5 uv5 ev5 => ?_)
        clear ev5
        refine sf_iadd (by omega) (fun v6 ev6 => ?_)
        refine sf_iald hI0 rfl (by omega) (fun v7 lv7 uv7 ev7 => ?_)
        clear lv7 uv7
        clear ev7
        refine sf_istore (L' := [(0, .inl (.ref 71)), (1, .inl (.int a_h)), (2, .inl (.int a_good)), (3, .inl (.int x3)), (4, .inl (.int x4))]) rfl ?_
        refine sf_aload rfl ?_
        refine sf_getr hI0 rfl rfl ?_
        refine sf_iload rfl ?_
        refine sf_iald hI0 rfl (by omega) (fun v8 lv8 uv8 ev8 => ?_)
        clear lv8 uv8
        clear ev8
        refine sf_iconst sf_c2 (fun z9 ez9 => ?_)
        refine sf_f2_eq (fun h10 => ?_) (fun h10 => ?_)
        · refine sf_aload rfl ?_
          refine sf_iload rfl ?_
          refine sf_aload rfl ?_
          refine sf_getr hI0 rfl rfl ?_
          refine sf_iload rfl ?_
          refine sf_iald hI0 rfl (by omega) (fun v11 lv11 uv11 ev11 => ?_)
          clear lv11 uv11
          clear ev11
          refine sf_call3 rfl rfl rfl ?_
          refine sf_rv hI0 rfl ?_
          refine sc_M_isUnder hI0 (by omega) (by omega) (by omega) (fun v12 lv12 uv12 => ?_)
          refine sf_f1_eq (fun h14 => ?_) (fun h14 => ?_)
          · refine sf_iload rfl ?_
            refine sf_istore (L' := [(5, .inl (.int v7)), (0, .inl (.ref 71)), (1, .inl (.int a_h)), (2, .inl (.int a_good)), (4, .inl (.int x4))]) rfl ?_
            refine sf_iinc (L' := [(3, .inl (.int x3)), (5, .inl (.int v7)), (0, .inl (.ref 71)), (1, .inl (.int a_h)), (2, .inl (.int a_good))]) sf_c1 rfl rfl (by omega) (fun v15 ev15 => ?_)
            refine sf_can (L' := [(0, .inl (.ref 71)), (1, .inl (.int a_h)), (2, .inl (.int a_good)), (3, .inl (.int x3)), (4, .inl (.int v15))]) rfl ?_
            exact i_5 x3 v15 (by omega) (by omega) (by omega)
          · refine sf_iload rfl ?_
            refine sf_iload rfl ?_
            refine sf_f2_le (fun h16 => ?_) (fun h16 => ?_)
            · refine sf_iload rfl ?_
              refine sf_istore (L' := [(5, .inl (.int v7)), (0, .inl (.ref 71)), (1, .inl (.int a_h)), (2, .inl (.int a_good)), (4, .inl (.int x4))]) rfl ?_
              refine sf_iinc (L' := [(3, .inl (.int x3)), (5, .inl (.int v7)), (0, .inl (.ref 71)), (1, .inl (.int a_h)), (2, .inl (.int a_good))]) sf_c1 rfl rfl (by omega) (fun v17 ev17 => ?_)
              refine sf_can (L' := [(0, .inl (.ref 71)), (1, .inl (.int a_h)), (2, .inl (.int a_good)), (3, .inl (.int x3)), (4, .inl (.int v17))]) rfl ?_
              exact i_5 x3 v17 (by omega) (by omega) (by omega)
            · refine sf_iload rfl ?_
              refine sf_istore (L' := [(5, .inl (.int v7)), (0, .inl (.ref 71)), (1, .inl (.int a_h)), (2, .inl (.int a_good)), (4, .inl (.int x4))]) rfl ?_
              refine sf_iinc (L' := [(3, .inl (.int v7)), (5, .inl (.int v7)), (0, .inl (.ref 71)), (1, .inl (.int a_h)), (2, .inl (.int a_good))]) sf_c1 rfl rfl (by omega) (fun v18 ev18 => ?_)
              refine sf_can (L' := [(0, .inl (.ref 71)), (1, .inl (.int a_h)), (2, .inl (.int a_good)), (3, .inl (.int v7)), (4, .inl (.int v18))]) rfl ?_
              exact i_5 v7 v18 (by omega) (by omega) (by omega)
        · refine sf_iload rfl ?_
          refine sf_istore (L' := [(5, .inl (.int v7)), (0, .inl (.ref 71)), (1, .inl (.int a_h)), (2, .inl (.int a_good)), (4, .inl (.int x4))]) rfl ?_
          refine sf_iinc (L' := [(3, .inl (.int x3)), (5, .inl (.int v7)), (0, .inl (.ref 71)), (1, .inl (.int a_h)), (2, .inl (.int a_good))]) sf_c1 rfl rfl (by omega) (fun v19 ev19 => ?_)
          refine sf_can (L' := [(0, .inl (.ref 71)), (1, .inl (.int a_h)), (2, .inl (.int a_good)), (3, .inl (.int x3)), (4, .inl (.int v19))]) rfl ?_
          exact i_5 x3 v19 (by omega) (by omega) (by omega)
  have hl1 := hl 1000000000000
  have i_5 := hl1
  clear hl hl1
  refine sf_sp (L := [(0, .inl (.ref 71)), (1, .inl (.int a_h)), (2, .inl (.int a_good))]) rfl rfl ?_
  generalize ku_M_shareOf rt xt 1000000000000 = K at i_5 ⊢
  refine sf_iconst sf_c0 (fun z20 ez20 => ?_)
  refine sf_istore (L' := [(0, .inl (.ref 71)), (1, .inl (.int a_h)), (2, .inl (.int a_good))]) rfl ?_
  refine sf_iconst sf_c0 (fun z21 ez21 => ?_)
  refine sf_istore (L' := [(3, .inl (.int z20)), (0, .inl (.ref 71)), (1, .inl (.int a_h)), (2, .inl (.int a_good))]) rfl ?_
  refine sf_can (L' := [(0, .inl (.ref 71)), (1, .inl (.int a_h)), (2, .inl (.int a_good)), (3, .inl (.int z20)), (4, .inl (.int z21))]) rfl ?_
  exact i_5 z20 z21 (by omega) (by omega) (by omega)
