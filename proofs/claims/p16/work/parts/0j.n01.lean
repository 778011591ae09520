def sm_M_left : List Nat := []
set_option maxRecDepth 100000 in
set_option maxHeartbeats 4000000 in
theorem sc_M_left {w0 : wq_W} (hI0 : sf_I w0) {rt : Option wq_V → wq_W → Prop} {xt : Nat → wq_W → Prop} {a_good : Int32} {a_held : Int32} (p0 : 0 ≤ a_held.toInt) (p1 : a_held.toInt ≤ 1) (p2 : sl_B (sf_a w0 122) (sf_a w0 123)) (hR : ∀ (r : Int32), 0 ≤ r.toInt → r.toInt ≤ 40000 → (r.toInt = sl_S (sl_mt (sf_a w0 121) (sf_a w0 125) a_good.toInt a_held.toInt) (sl_v (sf_a w0 122) (sf_a w0 123)) (sf_f w0 71 56).toInt.toNat) → rt (some (.inl (.int r))) w0) : ks_M_left [.inl (.ref 71), .inl (.int a_good), .inl (.int a_held)] w0 rt xt := by
  have b10 := (sf_fb hI0 (p := 71) (ci := 9) (j := 56) rfl rfl)
  have hl : ∀ n : Nat, (∀ (x3 : Int32) (x4 : Int32), (0 ≤ x3.toInt) → (x3.toInt ≤ 40000) → (0 ≤ x4.toInt) → (x4.toInt ≤ 40) → (x3.toInt = sl_S (sl_mt (sf_a w0 121) (sf_a w0 125) a_good.toInt a_held.toInt) (sl_v (sf_a w0 122) (sf_a w0 123)) x4.toInt.toNat) → (x4.toInt ≤ (sf_f w0 71 56).toInt) → (40 - x4.toInt < (n : Int)) → ku_M_left rt xt n 5 [(0, .inl (.ref 71)), (1, .inl (.int a_good)), (2, .inl (.int a_held)), (3, .inl (.int x3)), (4, .inl (.int x4))] [] w0 0 0) := by
    intro n
    induction n with
    | zero =>
      refine ?_
      · intros; omega
    | succ n ih =>
      have i_5 := ih
      intro x3 x4 l_x3 u_x3 l_x4 u_x4 f_0 f_1 hm
      show kh_M_left_5 rt xt (ku_M_left rt xt n) [(0, .inl (.ref 71)), (1, .inl (.int a_good)), (2, .inl (.int a_held)), (3, .inl (.int x3)), (4, .inl (.int x4))] [] w0 0 0
      generalize ku_M_left rt xt n = K at i_5 ⊢
      have hB := fun h9 : x4.toInt < 40 => p2 x4.toInt.toNat (by omega)
      have hS := sl_Sb (m := (sl_mt (sf_a w0 121) (sf_a w0 125) a_good.toInt a_held.toInt)) (v := (sl_v (sf_a w0 122) (sf_a w0 123))) x4.toInt.toNat (fun i hi => sl_Bv p2 (by omega))
      refine sf_iload rfl ?_
      refine sf_aload rfl ?_
      refine sf_geti hI0 rfl rfl (fun v1 lv1 uv1 ev1 => ?_)
      refine sf_f2_ge (fun h2 => ?_) (fun h2 => ?_)
      · refine sf_iload rfl ?_
        refine sf_ireturn rfl rfl ?_
        exact hR _ (by omega) (by omega) (by rw [f_0]; congr 1; omega)
      · refine sf_aload rfl ?_
        refine sf_getr hI0 rfl rfl ?_
        refine sf_iload rfl ?_
        refine sf_iald hI0 rfl (by omega) (fun v3 lv3 uv3 ev3 => ?_)
        clear lv3 uv3
        refine sf_iload rfl ?_
        refine sf_f2_eq (fun h4 => ?_) (fun h4 => ?_)
        · refine sf_aload rfl ?_
          refine sf_getr hI0 rfl rfl ?_
          refine sf_iload rfl ?_
          refine sf_zald hI0 rfl (by omega) (fun v5 lv5 uv5 ev5 => ?_)
          refine sf_iload rfl ?_
          refine sf_f2_eq (fun h6 => ?_) (fun h6 => ?_)
          · refine sf_iload rfl ?_
            refine sf_aload rfl ?_
            refine sf_getr hI0 rfl rfl ?_
            refine sf_iload rfl ?_
            refine sf_iald hI0 rfl (by omega) (fun v7 lv7 uv7 ev7 => ?_)
            refine sf_iadd (by omega) (fun v8 ev8 => ?_)
            refine sf_aload rfl ?_
            refine sf_getr hI0 rfl rfl ?_
            refine sf_iload rfl ?_
            refine sf_iald hI0 rfl (by omega) (fun v9 lv9 uv9 ev9 => ?_)
            refine sf_isub (by omega) (fun v10 ev10 => ?_)
            refine sf_istore (L' := [(0, .inl (.ref 71)), (1, .inl (.int a_good)), (2, .inl (.int a_held)), (4, .inl (.int x4))]) rfl ?_
            refine sf_iinc (L' := [(3, .inl (.int v10)), (0, .inl (.ref 71)), (1, .inl (.int a_good)), (2, .inl (.int a_held))]) sf_c1 rfl rfl (by omega) (fun v11 ev11 => ?_)
            refine sf_can (L' := [(0, .inl (.ref 71)), (1, .inl (.int a_good)), (2, .inl (.int a_held)), (3, .inl (.int v10)), (4, .inl (.int v11))]) rfl ?_
            exact i_5 v10 v11 (by omega) (by omega) (by omega) (by omega) (by rw [sl_ST (n := x4.toInt.toNat) (by omega) (sl_mtT (by omega))]; have hv : (sl_v (sf_a w0 122) (sf_a w0 123)) x4.toInt.toNat = (sf_a w0 122 x4.toInt.toNat).toInt - (sf_a w0 123 x4.toInt.toNat).toInt := rfl; omega) (by omega) (by omega)
          · refine sf_iload rfl ?_
            refine sf_istore (L' := [(0, .inl (.ref 71)), (1, .inl (.int a_good)), (2, .inl (.int a_held)), (4, .inl (.int x4))]) rfl ?_
            refine sf_iinc (L' := [(3, .inl (.int x3)), (0, .inl (.ref 71)), (1, .inl (.int a_good)), (2, .inl (.int a_held))]) sf_c1 rfl rfl (by omega) (fun v12 ev12 => ?_)
            refine sf_can (L' := [(0, .inl (.ref 71)), (1, .inl (.int a_good)), (2, .inl (.int a_held)), (3, .inl (.int x3)), (4, .inl (.int v12))]) rfl ?_
            exact i_5 x3 v12 (by omega) (by omega) (by omega) (by omega) (by rw [sl_SF (n := x4.toInt.toNat) (by omega) (sl_mtF (by omega))]; exact f_0) (by omega) (by omega)
        · refine sf_iload rfl ?_
          refine sf_istore (L' := [(0, .inl (.ref 71)), (1, .inl (.int a_good)), (2, .inl (.int a_held)), (4, .inl (.int x4))]) rfl ?_
          refine sf_iinc (L' := [(3, .inl (.int x3)), (0, .inl (.ref 71)), (1, .inl (.int a_good)), (2, .inl (.int a_held))]) sf_c1 rfl rfl (by omega) (fun v13 ev13 => ?_)
          refine sf_can (L' := [(0, .inl (.ref 71)), (1, .inl (.int a_good)), (2, .inl (.int a_held)), (3, .inl (.int x3)), (4, .inl (.int v13))]) rfl ?_
          exact i_5 x3 v13 (by omega) (by omega) (by omega) (by omega) (by rw [sl_SF (n := x4.toInt.toNat) (by omega) (sl_mtF (by omega))]; exact f_0) (by omega) (by omega)
  have hl1 := hl 1000000000000
  have i_5 := hl1
  clear hl hl1
  refine sf_sp (L := [(0, .inl (.ref 71)), (1, .inl (.int a_good)), (2, .inl (.int a_held))]) rfl rfl ?_
  generalize ku_M_left rt xt 1000000000000 = K at i_5 ⊢
  refine sf_iconst sf_c0 (fun z14 ez14 => ?_)
  refine sf_istore (L' := [(0, .inl (.ref 71)), (1, .inl (.int a_good)), (2, .inl (.int a_held))]) rfl ?_
  refine sf_iconst sf_c0 (fun z15 ez15 => ?_)
  refine sf_istore (L' := [(3, .inl (.int z14)), (0, .inl (.ref 71)), (1, .inl (.int a_good)), (2, .inl (.int a_held))]) rfl ?_
  refine sf_can (L' := [(0, .inl (.ref 71)), (1, .inl (.int a_good)), (2, .inl (.int a_held)), (3, .inl (.int z14)), (4, .inl (.int z15))]) rfl ?_
  exact i_5 z14 z15 (by omega) (by omega) (by omega) (by omega) (by rw [sl_Sz (by omega)]; omega) (by omega) (by omega)
def sm_M_came : List Nat := []
set_option maxRecDepth 100000 in
set_option maxHeartbeats 4000000 in
theorem sc_M_came {w0 : wq_W} (hI0 : sf_I w0) {rt : Option wq_V → wq_W → Prop} {xt : Nat → wq_W → Prop} {a_good : Int32} {a_byWork : Int32} (p0 : 0 ≤ a_byWork.toInt) (p1 : a_byWork.toInt ≤ 1) (p2 : sl_B (sf_a w0 122) (sf_a w0 123)) (hR : ∀ (r : Int32), 0 ≤ r.toInt → r.toInt ≤ 40000 → (r.toInt = sl_S (sl_mc (sf_a w0 121) (sf_a w0 125) (sf_a w0 126) a_good.toInt a_byWork.toInt) (sl_u (sf_a w0 122)) (sf_f w0 71 56).toInt.toNat) → rt (some (.inl (.int r))) w0) : ks_M_came [.inl (.ref 71), .inl (.int a_good), .inl (.int a_byWork)] w0 rt xt := by
  have b10 := (sf_fb hI0 (p := 71) (ci := 9) (j := 56) rfl rfl)
  have hl : ∀ n : Nat, (∀ (x3 : Int32) (x4 : Int32), (0 ≤ x3.toInt) → (x3.toInt ≤ 40000) → (0 ≤ x4.toInt) → (x4.toInt ≤ 40) → (x3.toInt = sl_S (sl_mc (sf_a w0 121) (sf_a w0 125) (sf_a w0 126) a_good.toInt a_byWork.toInt) (sl_u (sf_a w0 122)) x4.toInt.toNat) → (x4.toInt ≤ (sf_f w0 71 56).toInt) → (40 - x4.toInt < (n : Int)) → ku_M_came rt xt n 5 [(0, .inl (.ref 71)), (1, .inl (.int a_good)), (2, .inl (.int a_byWork)), (3, .inl (.int x3)), (4, .inl (.int x4))] [] w0 0 0) := by
    intro n
    induction n with
    | zero =>
      refine ?_
      · intros; omega
    | succ n ih =>
      have i_5 := ih
      intro x3 x4 l_x3 u_x3 l_x4 u_x4 f_0 f_1 hm
      show kh_M_came_5 rt xt (ku_M_came rt xt n) [(0, .inl (.ref 71)), (1, .inl (.int a_good)), (2, .inl (.int a_byWork)), (3, .inl (.int x3)), (4, .inl (.int x4))] [] w0 0 0
      generalize ku_M_came rt xt n = K at i_5 ⊢
      have hB := fun h9 : x4.toInt < 40 => p2 x4.toInt.toNat (by omega)
      have hS := sl_Sb (m := (sl_mc (sf_a w0 121) (sf_a w0 125) (sf_a w0 126) a_good.toInt a_byWork.toInt)) (v := (sl_u (sf_a w0 122))) x4.toInt.toNat (fun i hi => sl_Bu p2 (by omega))
      refine sf_iload rfl ?_
      refine sf_aload rfl ?_
      refine sf_geti hI0 rfl rfl (fun v1 lv1 uv1 ev1 => ?_)
      refine sf_f2_ge (fun h2 => ?_) (fun h2 => ?_)
      · refine sf_iload rfl ?_
        refine sf_ireturn rfl rfl ?_
        exact hR _ (by omega) (by omega) (by rw [f_0]; congr 1; omega)
      · refine sf_aload rfl ?_
        refine sf_getr hI0 rfl rfl ?_
        refine sf_iload rfl ?_
        refine sf_iald hI0 rfl (by omega) (fun v3 lv3 uv3 ev3 => ?_)
        clear lv3 uv3
        refine sf_iload rfl ?_
        refine sf_f2_eq (fun h4 => ?_) (fun h4 => ?_)
        · refine sf_aload rfl ?_
          refine sf_getr hI0 rfl rfl ?_
          refine sf_iload rfl ?_
          refine sf_zald hI0 rfl (by omega) (fun v5 lv5 uv5 ev5 => ?_)
          refine sf_f1_eq (fun h6 => ?_) (fun h6 => ?_)
          · refine sf_iload rfl ?_
            refine sf_istore (L' := [(0, .inl (.ref 71)), (1, .inl (.int a_good)), (2, .inl (.int a_byWork)), (4, .inl (.int x4))]) rfl ?_
            refine sf_iinc (L' := [(3, .inl (.int x3)), (0, .inl (.ref 71)), (1, .inl (.int a_good)), (2, .inl (.int a_byWork))]) sf_c1 rfl rfl (by omega) (fun v7 ev7 => ?_)
            refine sf_can (L' := [(0, .inl (.ref 71)), (1, .inl (.int a_good)), (2, .inl (.int a_byWork)), (3, .inl (.int x3)), (4, .inl (.int v7))]) rfl ?_
            exact i_5 x3 v7 (by omega) (by omega) (by omega) (by omega) (by rw [sl_SF (n := x4.toInt.toNat) (by omega) (sl_mcF (by omega))]; exact f_0) (by omega) (by omega)
          · refine sf_aload rfl ?_
            refine sf_getr hI0 rfl rfl ?_
            refine sf_iload rfl ?_
            refine sf_zald hI0 rfl (by omega) (fun v8 lv8 uv8 ev8 => ?_)
            refine sf_iload rfl ?_
            refine sf_f2_eq (fun h9 => ?_) (fun h9 => ?_)
            · refine sf_iload rfl ?_
              refine sf_aload rfl ?_
              refine sf_getr hI0 rfl rfl ?_
              refine sf_iload rfl ?_
              refine sf_iald hI0 rfl (by omega) (fun v10 lv10 uv10 ev10 => ?_)
              refine sf_iadd (by omega) (fun v11 ev11 => ?_)
              refine sf_istore (L' := [(0, .inl (.ref 71)), (1, .inl (.int a_good)), (2, .inl (.int a_byWork)), (4, .inl (.int x4))]) rfl ?_
              refine sf_iinc (L' := [(3, .inl (.int v11)), (0, .inl (.ref 71)), (1, .inl (.int a_good)), (2, .inl (.int a_byWork))]) sf_c1 rfl rfl (by omega) (fun v12 ev12 => ?_)
              refine sf_can (L' := [(0, .inl (.ref 71)), (1, .inl (.int a_good)), (2, .inl (.int a_byWork)), (3, .inl (.int v11)), (4, .inl (.int v12))]) rfl ?_
              exact i_5 v11 v12 (by omega) (by omega) (by omega) (by omega) (by rw [sl_ST (n := x4.toInt.toNat) (by omega) (sl_mcT (by omega))]; have hv : (sl_u (sf_a w0 122)) x4.toInt.toNat = (sf_a w0 122 x4.toInt.toNat).toInt := rfl; omega) (by omega) (by omega)
            · refine sf_iload rfl ?_
              refine sf_istore (L' := [(0, .inl (.ref 71)), (1, .inl (.int a_good)), (2, .inl (.int a_byWork)), (4, .inl (.int x4))]) rfl ?_
              refine sf_iinc (L' := [(3, .inl (.int x3)), (0, .inl (.ref 71)), (1, .inl (.int a_good)), (2, .inl (.int a_byWork))]) sf_c1 rfl rfl (by omega) (fun v13 ev13 => ?_)
              refine sf_can (L' := [(0, .inl (.ref 71)), (1, .inl (.int a_good)), (2, .inl (.int a_byWork)), (3, .inl (.int x3)), (4, .inl (.int v13))]) rfl ?_
              exact i_5 x3 v13 (by omega) (by omega) (by omega) (by omega) (by rw [sl_SF (n := x4.toInt.toNat) (by omega) (sl_mcF (by omega))]; exact f_0) (by omega) (by omega)
        · refine sf_iload rfl ?_
          refine sf_istore (L' := [(0, .inl (.ref 71)), (1, .inl (.int a_good)), (2, .inl (.int a_byWork)), (4, .inl (.int x4))]) rfl ?_
          refine sf_iinc (L' := [(3, .inl (.int x3)), (0, .inl (.ref 71)), (1, .inl (.int a_good)), (2, .inl (.int a_byWork))]) sf_c1 rfl rfl (by omega) (fun v14 ev14 => ?_)
          refine sf_can (L' := [(0, .inl (.ref 71)), (1, .inl (.int a_good)), (2, .inl (.int a_byWork)), (3, .inl (.int x3)), (4, .inl (.int v14))]) rfl ?_
          exact i_5 x3 v14 (by omega) (by omega) (by omega) (by omega) (by rw [sl_SF (n := x4.toInt.toNat) (by omega) (sl_mcF (by omega))]; exact f_0) (by omega) (by omega)
  have hl1 := hl 1000000000000
  have i_5 := hl1
  clear hl hl1
  refine sf_sp (L := [(0, .inl (.ref 71)), (1, .inl (.int a_good)), (2, .inl (.int a_byWork))]) rfl rfl ?_
  generalize ku_M_came rt xt 1000000000000 = K at i_5 ⊢
  refine sf_iconst sf_c0 (fun z15 ez15 => ?_)
  refine sf_istore (L' := [(0, .inl (.ref 71)), (1, .inl (.int a_good)), (2, .inl (.int a_byWork))]) rfl ?_
  refine sf_iconst sf_c0 (fun z16 ez16 => ?_)
  refine sf_istore (L' := [(3, .inl (.int z15)), (0, .inl (.ref 71)), (1, .inl (.int a_good)), (2, .inl (.int a_byWork))]) rfl ?_
  refine sf_can (L' := [(0, .inl (.ref 71)), (1, .inl (.int a_good)), (2, .inl (.int a_byWork)), (3, .inl (.int z15)), (4, .inl (.int z16))]) rfl ?_
  exact i_5 z15 z16 (by omega) (by omega) (by omega) (by omega) (by rw [sl_Sz (by omega)]; omega) (by omega) (by omega)
def sm_M_take : List Nat := [123]
set_option maxRecDepth 100000 in
set_option maxHeartbeats 4000000 in
theorem sc_M_take {w0 : wq_W} (hI0 : sf_I w0) {rt : Option wq_V → wq_W → Prop} {xt : Nat → wq_W → Prop} {a_good : Int32} {a_units : Int32} {a_held : Int32} (p0 : 0 ≤ a_units.toInt) (p1 : a_units.toInt ≤ 1000) (p2 : 0 ≤ a_held.toInt) (p3 : a_held.toInt ≤ 1) (p4 : sl_B (sf_a w0 122) (sf_a w0 123)) (hR : ∀ (r : Int64) (w : wq_W), sf_I w → sf_m sm_M_take w0 w → (sl_T (sf_a w0 123) (sf_a w 123) (sl_mt (sf_a w0 121) (sf_a w0 125) a_good.toInt a_held.toInt) (sl_v (sf_a w0 122) (sf_a w0 123)) a_units.toInt (sf_f w0 71 56).toInt.toNat) → rt (some (.inl (.long r))) w) : ks_M_take [.inl (.ref 71), .inl (.int a_good), .inl (.int a_units), .inl (.int a_held)] w0 rt xt := by
  have hs0 : sf_m sm_M_take w0 w0 := sf_m0
  have b10 := (sf_fb hI0 (p := 71) (ci := 9) (j := 56) rfl rfl)
  have hl : ∀ n : Nat, (∀ (w : wq_W) (x4 : Int64) (x6 : Int32) (x7 : Int32), (sf_I w) → (sf_m sm_M_take w0 w) → (0 ≤ x6.toInt) → (x6.toInt ≤ 1000) → (0 ≤ x7.toInt) → (x7.toInt ≤ 40) → (x6.toInt = sl_m (sl_mt (sf_a w0 121) (sf_a w0 125) a_good.toInt a_held.toInt) (sl_v (sf_a w0 122) (sf_a w0 123)) a_units.toInt x7.toInt.toNat) → (sl_T (sf_a w0 123) (sf_a w 123) (sl_mt (sf_a w0 121) (sf_a w0 125) a_good.toInt a_held.toInt) (sl_v (sf_a w0 122) (sf_a w0 123)) a_units.toInt x7.toInt.toNat) → (x7.toInt ≤ (sf_f w0 71 56).toInt) → (2 * x6.toInt + 2 * (40 - x7.toInt) + 2 < (n : Int)) → ku_M_take rt xt n 9 [(0, .inl (.ref 71)), (1, .inl (.int a_good)), (3, .inl (.int a_held)), (4, .inl (.long x4)), (6, .inl (.int x6)), (7, .inl (.int x7))] [] w 0 0) ∧ (∀ (w : wq_W) (x4 : Int64) (x6 : Int32) (x7 : Int32), (sf_I w) → (sf_m sm_M_take w0 w) → (0 ≤ x6.toInt) → (x6.toInt ≤ 1000) → (0 ≤ x7.toInt) → (x7.toInt ≤ 39) → (sl_J (sf_a w0 123) (sf_a w 123) (sf_a w0 122) (sl_mt (sf_a w0 121) (sf_a w0 125) a_good.toInt a_held.toInt) (sl_v (sf_a w0 122) (sf_a w0 123)) a_units.toInt x7.toInt.toNat x6.toInt) → (x7.toInt < (sf_f w0 71 56).toInt) → (2 * x6.toInt + 2 * (40 - x7.toInt) + 1 < (n : Int)) → ku_M_take rt xt n 18 [(0, .inl (.ref 71)), (1, .inl (.int a_good)), (3, .inl (.int a_held)), (4, .inl (.long x4)), (6, .inl (.int x6)), (7, .inl (.int x7))] [] w 0 0) := by
    intro n
    induction n with
    | zero =>
      refine ⟨?_, ?_⟩
      · intros; omega
      · intros; omega
    | succ n ih =>
      obtain ⟨i_9, i_18⟩ := ih
      refine ⟨?_, ?_⟩
      · intro w x4 x6 x7 I_w s_w l_x6 u_x6 l_x7 u_x7 f_0 f_1 f_2 hm
        show kh_M_take_9 rt xt (ku_M_take rt xt n) [(0, .inl (.ref 71)), (1, .inl (.int a_good)), (3, .inl (.int a_held)), (4, .inl (.long x4)), (6, .inl (.int x6)), (7, .inl (.int x7))] [] w 0 0
        generalize ku_M_take rt xt n = K at i_9 i_18 ⊢
        refine sf_iload rfl ?_
        refine sf_aload rfl ?_
        refine sf_geti I_w rfl rfl (fun v1 lv1 uv1 ev1 => ?_)
        rw [sf_mf s_w (p := 71) (j := 56) rfl] at ev1
        refine sf_f2_ge (fun h2 => ?_) (fun h2 => ?_)
        · refine sf_lload rfl ?_
          refine sf_lreturn rfl rfl ?_
          exact hR _ _ I_w s_w (by rw [show (sf_f w0 71 56).toInt.toNat = x7.toInt.toNat by omega]; exact f_1)
        · refine sf_can (L' := [(0, .inl (.ref 71)), (1, .inl (.int a_good)), (3, .inl (.int a_held)), (4, .inl (.long x4)), (6, .inl (.int x6)), (7, .inl (.int x7))]) rfl ?_
          exact i_18 w x4 x6 x7 I_w s_w (by omega) (by omega) (by omega) (by omega) (by exact sl_J0 f_1 p4 (by omega) f_0 (by omega)) (by omega) (by omega)
      · intro w x4 x6 x7 I_w s_w l_x6 u_x6 l_x7 u_x7 f_0 f_1 hm
        show kh_M_take_18 rt xt (ku_M_take rt xt n) [(0, .inl (.ref 71)), (1, .inl (.int a_good)), (3, .inl (.int a_held)), (4, .inl (.long x4)), (6, .inl (.int x6)), (7, .inl (.int x7))] [] w 0 0
        generalize ku_M_take rt xt n = K at i_9 i_18 ⊢
        have hv : (sl_v (sf_a w0 122) (sf_a w0 123)) x7.toInt.toNat = (sf_a w0 122 x7.toInt.toNat).toInt - (sf_a w0 123 x7.toInt.toNat).toInt := rfl
        have hB := p4 x7.toInt.toNat (by omega)
        obtain ⟨j1, j2, j3, j4, j5, j6⟩ := id f_0
        clear j1 j6
        refine sf_iload rfl ?_
        refine sf_f1_le (fun h3 => ?_) (fun h3 => ?_)
        · refine sf_iinc (L' := [(0, .inl (.ref 71)), (1, .inl (.int a_good)), (3, .inl (.int a_held)), (4, .inl (.long x4)), (6, .inl (.int x6))]) sf_c1 rfl rfl (by omega) (fun v4 ev4 => ?_)
          refine sf_can (L' := [(0, .inl (.ref 71)), (1, .inl (.int a_good)), (3, .inl (.int a_held)), (4, .inl (.long x4)), (6, .inl (.int x6)), (7, .inl (.int v4))]) rfl ?_
          exact i_9 w x4 x6 v4 I_w s_w (by omega) (by omega) (by omega) (by omega) (by exact (sl_JE (k := x7.toInt.toNat) f_0 (by omega) (by omega) hv (Or.inl (by omega))).2) (by exact (sl_JE (k := x7.toInt.toNat) f_0 (by omega) (by omega) hv (Or.inl (by omega))).1) (by omega) (by omega)
        · refine sf_aload rfl ?_
          refine sf_getr I_w rfl rfl ?_
          refine sf_iload rfl ?_
          refine sf_iald I_w rfl (by omega) (fun v5 lv5 uv5 ev5 => ?_)
          clear lv5 uv5
          rw [sf_ma s_w (p := 121) rfl] at ev5
          refine sf_iload rfl ?_
          refine sf_f2_eq (fun h6 => ?_) (fun h6 => ?_)
          · refine sf_aload rfl ?_
            refine sf_getr I_w rfl rfl ?_
            refine sf_iload rfl ?_
            refine sf_zald I_w rfl (by omega) (fun v7 lv7 uv7 ev7 => ?_)
            rw [sf_ma s_w (p := 125) rfl] at ev7
            refine sf_iload rfl ?_
            refine sf_f2_eq (fun h8 => ?_) (fun h8 => ?_)
            · refine sf_aload rfl ?_
              refine sf_getr I_w rfl rfl ?_
              refine sf_iload rfl ?_
              refine sf_iald I_w rfl (by omega) (fun v9 lv9 uv9 ev9 => ?_)
              refine sf_aload rfl ?_
              refine sf_getr I_w rfl rfl ?_
              refine sf_iload rfl ?_
              refine sf_iald I_w rfl (by omega) (fun v10 lv10 uv10 ev10 => ?_)
              rw [sf_ma s_w (p := 122) rfl] at ev10
              refine sf_f2_ge (fun h11 => ?_) (fun h11 => ?_)
              · refine sf_iinc (L' := [(0, .inl (.ref 71)), (1, .inl (.int a_good)), (3, .inl (.int a_held)), (4, .inl (.long x4)), (6, .inl (.int x6))]) sf_c1 rfl rfl (by omega) (fun v12 ev12 => ?_)
                refine sf_can (L' := [(0, .inl (.ref 71)), (1, .inl (.int a_good)), (3, .inl (.int a_held)), (4, .inl (.long x4)), (6, .inl (.int x6)), (7, .inl (.int v12))]) rfl ?_
                exact i_9 w x4 x6 v12 I_w s_w (by omega) (by omega) (by omega) (by omega) (by exact (sl_JE (k := x7.toInt.toNat) f_0 (by omega) (by omega) hv (Or.inr (Or.inr (by omega)))).2) (by exact (sl_JE (k := x7.toInt.toNat) f_0 (by omega) (by omega) hv (Or.inr (Or.inr (by omega)))).1) (by omega) (by omega)
              · refine sf_lload rfl ?_
                refine sf_aload rfl ?_
                refine sf_getr I_w rfl rfl ?_
                refine sf_iload rfl ?_
                refine sf_lald I_w rfl (by omega) (fun v13 ev13 => ?_)
                clear ev13
                refine sf_aload rfl ?_
                refine sf_getr I_w rfl rfl ?_
                refine sf_iload rfl ?_
                refine sf_iald I_w rfl (by omega) (fun v14 lv14 uv14 ev14 => ?_)
                refine sf_i2l (fun v15 ev15 => ?_)
                refine sf_l2 (fun v16 => ?_)
                refine sf_aload rfl ?_
                refine sf_getr I_w rfl rfl ?_
                refine sf_iload rfl ?_
                refine sf_iald I_w rfl (by omega) (fun v17 lv17 uv17 ev17 => ?_)
                rw [sf_ma s_w (p := 122) rfl] at ev17
                refine sf_i2lb (fun v18 ev18 lv18 uv18 => ?_)
                refine sf_l2d (by omega) (fun v19 => ?_)
                refine sf_l2 (fun v20 => ?_)
                refine sf_lstore (L' := [(0, .inl (.ref 71)), (1, .inl (.int a_good)), (3, .inl (.int a_held)), (6, .inl (.int x6)), (7, .inl (.int x7))]) rfl ?_
                refine sf_aload rfl ?_
                refine sf_getr I_w rfl rfl ?_
                refine sf_iload rfl ?_
                refine sf_dup2 rfl rfl ?_
                refine sf_iald I_w rfl (by omega) (fun v21 lv21 uv21 ev21 => ?_)
                refine sf_iconst sf_c1 (fun z22 ez22 => ?_)
                refine sf_iadd (by omega) (fun v23 ev23 => ?_)
                refine sf_iast I_w s_w rfl (by omega) (by omega) rfl rfl (fun w24 Iw24 sw24 kw24 uw24 => ?_)
                clear kw24
                have gs := uw24
                skip
                refine sf_lload rfl ?_
                refine sf_aload rfl ?_
                refine sf_getr Iw24 rfl rfl ?_
                refine sf_iload rfl ?_
                refine sf_lald Iw24 rfl (by omega) (fun v25 ev25 => ?_)
                clear ev25
                refine sf_aload rfl ?_
                refine sf_getr Iw24 rfl rfl ?_
                refine sf_iload rfl ?_
                refine sf_iald Iw24 rfl (by omega) (fun v26 lv26 uv26 ev26 => ?_)
                refine sf_i2l (fun v27 ev27 => ?_)
                refine sf_l2 (fun v28 => ?_)
                refine sf_aload rfl ?_
                refine sf_getr Iw24 rfl rfl ?_
                refine sf_iload rfl ?_
                refine sf_iald Iw24 rfl (by omega) (fun v29 lv29 uv29 ev29 => ?_)
                rw [sf_ma sw24 (p := 122) rfl] at ev29
                refine sf_i2lb (fun v30 ev30 lv30 uv30 => ?_)
                refine sf_l2d (by omega) (fun v31 => ?_)
                refine sf_l2 (fun v32 => ?_)
                refine sf_lstore (L' := [(0, .inl (.ref 71)), (1, .inl (.int a_good)), (3, .inl (.int a_held)), (6, .inl (.int x6)), (7, .inl (.int x7))]) rfl ?_
                refine sf_iinc (L' := [(4, .inl (.long v32)), (0, .inl (.ref 71)), (1, .inl (.int a_good)), (3, .inl (.int a_held)), (7, .inl (.int x7))]) sf_cm1 rfl rfl (by omega) (fun v33 ev33 => ?_)
                refine sf_can (L' := [(0, .inl (.ref 71)), (1, .inl (.int a_good)), (3, .inl (.int a_held)), (4, .inl (.long v32)), (6, .inl (.int v33)), (7, .inl (.int x7))]) rfl ?_
                exact i_18 w24 v32 v33 x7 Iw24 sw24 (by omega) (by omega) (by omega) (by omega) (by exact sl_JS (z := v23) f_0 (sl_mtT (by omega)) (by omega) (by omega) (by omega) gs (by omega)) (by omega) (by omega)
            · refine sf_iinc (L' := [(0, .inl (.ref 71)), (1, .inl (.int a_good)), (3, .inl (.int a_held)), (4, .inl (.long x4)), (6, .inl (.int x6))]) sf_c1 rfl rfl (by omega) (fun v34 ev34 => ?_)
              refine sf_can (L' := [(0, .inl (.ref 71)), (1, .inl (.int a_good)), (3, .inl (.int a_held)), (4, .inl (.long x4)), (6, .inl (.int x6)), (7, .inl (.int v34))]) rfl ?_
              exact i_9 w x4 x6 v34 I_w s_w (by omega) (by omega) (by omega) (by omega) (by exact (sl_JE (k := x7.toInt.toNat) f_0 (by omega) (by omega) hv (Or.inr (Or.inl (sl_mtF (by omega))))).2) (by exact (sl_JE (k := x7.toInt.toNat) f_0 (by omega) (by omega) hv (Or.inr (Or.inl (sl_mtF (by omega))))).1) (by omega) (by omega)
          · refine sf_iinc (L' := [(0, .inl (.ref 71)), (1, .inl (.int a_good)), (3, .inl (.int a_held)), (4, .inl (.long x4)), (6, .inl (.int x6))]) sf_c1 rfl rfl (by omega) (fun v35 ev35 => ?_)
            refine sf_can (L' := [(0, .inl (.ref 71)), (1, .inl (.int a_good)), (3, .inl (.int a_held)), (4, .inl (.long x4)), (6, .inl (.int x6)), (7, .inl (.int v35))]) rfl ?_
            exact i_9 w x4 x6 v35 I_w s_w (by omega) (by omega) (by omega) (by omega) (by exact (sl_JE (k := x7.toInt.toNat) f_0 (by omega) (by omega) hv (Or.inr (Or.inl (sl_mtF (by omega))))).2) (by exact (sl_JE (k := x7.toInt.toNat) f_0 (by omega) (by omega) hv (Or.inr (Or.inl (sl_mtF (by omega))))).1) (by omega) (by omega)
  have hl1 := hl 1000000000000
  obtain ⟨i_9, i_18⟩ := hl1
  clear hl
  refine sf_sp (L := [(0, .inl (.ref 71)), (1, .inl (.int a_good)), (2, .inl (.int a_units)), (3, .inl (.int a_held))]) rfl rfl ?_
  generalize ku_M_take rt xt 1000000000000 = K at i_9 i_18 ⊢
  refine sf_lconst (by decide : (0 : Int64).toInt = 0) (fun z36 ez36 => ?_)
  refine sf_lstore (L' := [(0, .inl (.ref 71)), (1, .inl (.int a_good)), (2, .inl (.int a_units)), (3, .inl (.int a_held))]) rfl ?_
  refine sf_iload rfl ?_
  refine sf_istore (L' := [(4, .inl (.long z36)), (0, .inl (.ref 71)), (1, .inl (.int a_good)), (2, .inl (.int a_units)), (3, .inl (.int a_held))]) rfl ?_
  refine sf_iconst sf_c0 (fun z37 ez37 => ?_)
  refine sf_istore (L' := [(6, .inl (.int a_units)), (4, .inl (.long z36)), (0, .inl (.ref 71)), (1, .inl (.int a_good)), (2, .inl (.int a_units)), (3, .inl (.int a_held))]) rfl ?_
  refine sf_can (L' := [(0, .inl (.ref 71)), (1, .inl (.int a_good)), (3, .inl (.int a_held)), (4, .inl (.long z36)), (6, .inl (.int a_units)), (7, .inl (.int z37))]) rfl ?_
  exact i_9 w0 z36 a_units z37 hI0 hs0 (by omega) (by omega) (by omega) (by omega) (by rw [sl_mz (by omega)]) (by exact sl_T0 rfl (by omega)) (by omega) (by omega)
def sm_M_heading : List Nat := [71, 72, 73, 8100, 8101]
set_option maxRecDepth 100000 in
set_option maxHeartbeats 4000000 in
theorem sc_M_heading {w0 : wq_W} (hI0 : sf_I w0) {rt : Option wq_V → wq_W → Prop} {xt : Nat → wq_W → Prop} {a_above : Int32} (p0 : sf_J (sf_a w0 3) (sf_a w0 72) (sf_f w0 71 1).toInt) (hR : ∀ (r : Int32) (w : wq_W), sf_I w → sf_m sm_M_heading w0 w → 0 ≤ r.toInt → r.toInt ≤ 24 → ((((sf_f w 71 0).toInt = 0 ∧ (a_above.toInt = -1 ∨ (0 ≤ a_above.toInt ∧ a_above.toInt < (sf_f w0 71 1).toInt)) ∧ ((sf_f w0 71 1).toInt < 24 ∧ (a_above.toInt = -1 ∨ (sf_a w0 3 a_above.toInt.toNat).toInt < 5)) ∧ (sf_f w 71 1).toInt = (sf_f w0 71 1).toInt + 1 ∧ r.toInt = (sf_f w0 71 1).toInt) ∨ ((sf_f w 71 0).toInt = 1 ∧ ¬ (a_above.toInt = -1 ∨ (0 ≤ a_above.toInt ∧ a_above.toInt < (sf_f w0 71 1).toInt)) ∧ (sf_f w 71 1).toInt = (sf_f w0 71 1).toInt) ∨ ((sf_f w 71 0).toInt = 2 ∧ (a_above.toInt = -1 ∨ (0 ≤ a_above.toInt ∧ a_above.toInt < (sf_f w0 71 1).toInt)) ∧ ¬ ((sf_f w0 71 1).toInt < 24 ∧ (a_above.toInt = -1 ∨ (sf_a w0 3 a_above.toInt.toNat).toInt < 5)) ∧ (sf_f w 71 1).toInt = (sf_f w0 71 1).toInt))) → (sf_G2 (sf_a w0 72) (sf_a w 72) (sf_f w0 71 1).toInt (sf_f w 71 1).toInt (sf_f w 71 0).toInt a_above) → (sf_U (sf_a w0 72) (sf_a w 72) (sf_f w0 71 1).toInt (sf_f w 71 0).toInt a_above) → rt (some (.inl (.int r))) w) : ks_M_heading [.inl (.ref 71), .inl (.int a_above)] w0 rt xt := by
  have hs0 : sf_m sm_M_heading w0 w0 := sf_m0
  refine sf_sp (L := [(0, .inl (.ref 71)), (1, .inl (.int a_above))]) rfl rfl ?_
  refine sf_aload rfl ?_
  refine sf_iload rfl ?_
  refine sf_iconst sf_cm1 (fun z1 ez1 => ?_)
  refine sf_f2_eq (fun h2 => ?_) (fun h2 => ?_)
  · refine sf_aload rfl ?_
    refine sf_geti hI0 rfl rfl (fun v3 lv3 uv3 ev3 => ?_)
    refine sf_iconst sf_c24 (fun z4 ez4 => ?_)
    refine sf_f2_eq (fun h5 => ?_) (fun h5 => ?_)
    · refine sf_iconst sf_c2 (fun z6 ez6 => ?_)
      refine sf_puti hI0 hs0 rfl rfl (sf_bd _) rfl rfl rfl (fun w7 Iw7 sw7 kw7 uw7 => ?_)
      have c8 := sf_ma kw7 (p := 72) rfl
      have c9 := sf_mf kw7 (p := 71) (j := 1) rfl
      clear kw7
      have I9 := Iw7
      have q9 := c9
      refine sf_aload rfl ?_
      refine sf_geti Iw7 rfl rfl (fun v10 lv10 uv10 ev10 => ?_)
      rw [uw7] at ev10
      refine sf_f1_le (fun h11 => absurd h11 (by omega)) (fun h11 => ?_)
      refine sf_iconst sf_c0 (fun z12 ez12 => ?_)
      refine sf_ireturn rfl rfl ?_
      exact hR _ _ Iw7 sw7 (by omega) (by omega) (by rw [uw7]; rw [c9]; first | (refine Or.inl ⟨by omega, ?_⟩; omega) | (refine Or.inr (Or.inl ⟨by omega, ?_⟩); omega) | (refine Or.inr (Or.inr ⟨by omega, ?_⟩); omega)) (by rw [uw7]; rw [c9]; rw [c8]; first | exact Or.inl ⟨by omega, rfl, by omega⟩ | exact Or.inr ⟨by omega, gpa2, by omega, by omega, by omega⟩) (by rw [uw7]; rw [c8]; first | exact Or.inl ⟨by omega, rfl⟩ | exact Or.inr ⟨by omega, u72⟩)
    · refine sf_iload rfl ?_
      refine sf_f1_lt (fun h13 => ?_) (fun h13 => absurd h13 (by omega))
      refine sf_iconst sf_c0 (fun z14 ez14 => ?_)
      refine sf_puti hI0 hs0 rfl rfl (sf_bd _) rfl rfl rfl (fun w15 Iw15 sw15 kw15 uw15 => ?_)
      have c16 := sf_ma kw15 (p := 72) rfl
      have c17 := sf_mf kw15 (p := 71) (j := 1) rfl
      clear kw15
      have I9 := Iw15
      have q9 := c17
      refine sf_aload rfl ?_
      refine sf_geti Iw15 rfl rfl (fun v18 lv18 uv18 ev18 => ?_)
      rw [uw15] at ev18
      refine sf_f1_le (fun h19 => ?_) (fun h19 => absurd h19 (by omega))
      refine sf_aload rfl ?_
      refine sf_getr Iw15 rfl rfl ?_
      refine sf_aload rfl ?_
      refine sf_geti Iw15 rfl rfl (fun v20 lv20 uv20 ev20 => ?_)
      rw [c17] at ev20
      refine sf_iload rfl ?_
      have g72 := c16
      refine sf_iastR Iw15 sw15 rfl (by omega) (by omega) rfl (fun w9 h1 h2 => sf_R_pa Iw15 h1 h2 (by omega) (by omega)) (fun w21 Iw21 sw21 kw21 uw21 => ?_)
      have c22 := sf_mf kw21 (p := 71) (j := 0) rfl
      have c23 := sf_mf kw21 (p := 71) (j := 1) rfl
      clear kw21
      have gpa := uw21
      have gp0 : (sf_a w21 72 0).toInt < 0 := by
        rw [gpa]; unfold upd; split
        · omega
        · have r1 := I9.2.1.2.1; rw [q9] at r1; omega
      have gpa2 := uw21
      have gi : v20.toInt = (sf_f w0 71 1).toInt := by omega
      rw [gi, g72] at gpa2
      have u72 := uw21
      rw [show v20.toInt = (sf_f w0 71 1).toInt by omega] at u72
      rw [c16] at u72
      refine sf_aload rfl ?_
      refine sf_getr Iw21 rfl rfl ?_
      refine sf_aload rfl ?_
      refine sf_geti Iw21 rfl rfl (fun v24 lv24 uv24 ev24 => ?_)
      rw [c23, c17] at ev24
      refine sf_iconst sf_cm1 (fun z25 ez25 => ?_)
      refine sf_iastR Iw21 sw21 rfl (by omega) (sf_bd _) rfl (fun w9 h1 h2 => sf_R_rk Iw21 h1 h2 (Or.inr gp0)) (fun w26 Iw26 sw26 kw26 uw26 => ?_)
      have c27 := sf_mf kw26 (p := 71) (j := 0) rfl
      have c28 := sf_ma kw26 (p := 72) rfl
      have c29 := sf_mf kw26 (p := 71) (j := 1) rfl
      clear kw26 uw26
      refine sf_aload rfl ?_
      refine sf_dup rfl ?_
      refine sf_geti Iw26 rfl rfl (fun v30 lv30 uv30 ev30 => ?_)
      rw [c29, c23, c17] at ev30
      refine sf_iconst sf_c1 (fun z31 ez31 => ?_)
      refine sf_iadd (by omega) (fun v32 ev32 => ?_)
      refine sf_putiR Iw26 sw26 rfl rfl (by omega) rfl rfl (fun w9 h1 _ => sf_R_hd Iw26 h1 (by rw [c28]; exact gp0)) (fun w33 Iw33 sw33 kw33 uw33 => ?_)
      have c34 := sf_mf kw33 (p := 71) (j := 0) rfl
      have c35 := sf_ma kw33 (p := 72) rfl
      clear kw33
      refine sf_aload rfl ?_
      refine sf_geti Iw33 rfl rfl (fun v36 lv36 uv36 ev36 => ?_)
      rw [uw33] at ev36
      refine sf_iconst sf_c1 (fun z37 ez37 => ?_)
      refine sf_isub (by omega) (fun v38 ev38 => ?_)
      refine sf_ireturn rfl rfl ?_
      exact hR _ _ Iw33 sw33 (by omega) (by omega) (by rw [c34, c27, c22, uw15]; rw [uw33]; first | (refine Or.inl ⟨by omega, ?_⟩; omega) | (refine Or.inr (Or.inl ⟨by omega, ?_⟩); omega) | (refine Or.inr (Or.inr ⟨by omega, ?_⟩); omega)) (by rw [c34, c27, c22, uw15]; rw [uw33]; rw [c35, c28]; first | exact Or.inl ⟨by omega, rfl, by omega⟩ | exact Or.inr ⟨by omega, gpa2, by omega, by omega, by omega⟩) (by rw [c34, c27, c22, uw15]; rw [c35, c28]; first | exact Or.inl ⟨by omega, rfl⟩ | exact Or.inr ⟨by omega, u72⟩)
  · refine sf_aload rfl ?_
    refine sf_iload rfl ?_
    refine sf_call2 rfl rfl rfl ?_
    refine sf_rv hI0 rfl ?_
    refine sf_sp (L := [(0, .inl (.ref 71)), (1, .inl (.int a_above))]) rfl rfl ?_
    refine sf_iload rfl ?_
    refine sf_f1_lt (fun h39 => ?_) (fun h39 => ?_)
    · refine sf_iconst sf_c0 (fun z40 ez40 => ?_)
      refine sf_zreturn (by omega) rfl rfl ?_
      refine sf_f1_eq (fun h41 => ?_) (fun h41 => absurd h41 (by omega))
      refine sf_iconst sf_c1 (fun z42 ez42 => ?_)
      refine sf_puti hI0 hs0 rfl rfl (sf_bd _) rfl rfl rfl (fun w43 Iw43 sw43 kw43 uw43 => ?_)
      have c44 := sf_ma kw43 (p := 72) rfl
      have c45 := sf_mf kw43 (p := 71) (j := 1) rfl
      clear kw43
      have I9 := Iw43
      have q9 := c45
      refine sf_aload rfl ?_
      refine sf_geti Iw43 rfl rfl (fun v46 lv46 uv46 ev46 => ?_)
      rw [uw43] at ev46
      refine sf_f1_le (fun h47 => absurd h47 (by omega)) (fun h47 => ?_)
      refine sf_iconst sf_c0 (fun z48 ez48 => ?_)
      refine sf_ireturn rfl rfl ?_
      exact hR _ _ Iw43 sw43 (by omega) (by omega) (by rw [uw43]; rw [c45]; first | (refine Or.inl ⟨by omega, ?_⟩; omega) | (refine Or.inr (Or.inl ⟨by omega, ?_⟩); omega) | (refine Or.inr (Or.inr ⟨by omega, ?_⟩); omega)) (by rw [uw43]; rw [c45]; rw [c44]; first | exact Or.inl ⟨by omega, rfl, by omega⟩ | exact Or.inr ⟨by omega, gpa2, by omega, by omega, by omega⟩) (by rw [uw43]; rw [c44]; first | exact Or.inl ⟨by omega, rfl⟩ | exact Or.inr ⟨by omega, u72⟩)
    · refine sf_iload rfl ?_
      refine sf_aload rfl ?_
      refine sf_geti hI0 rfl rfl (fun v49 lv49 uv49 ev49 => ?_)
      refine sf_f2_ge (fun h50 => ?_) (fun h50 => ?_)
      · refine sf_iconst sf_c0 (fun z51 ez51 => ?_)
        refine sf_zreturn (by omega) rfl rfl ?_
        refine sf_f1_eq (fun h52 => ?_) (fun h52 => absurd h52 (by omega))
        refine sf_iconst sf_c1 (fun z53 ez53 => ?_)
        refine sf_puti hI0 hs0 rfl rfl (sf_bd _) rfl rfl rfl (fun w54 Iw54 sw54 kw54 uw54 => ?_)
        have c55 := sf_ma kw54 (p := 72) rfl
        have c56 := sf_mf kw54 (p := 71) (j := 1) rfl
        clear kw54
        have I9 := Iw54
        have q9 := c56
        refine sf_aload rfl ?_
        refine sf_geti Iw54 rfl rfl (fun v57 lv57 uv57 ev57 => ?_)
        rw [uw54] at ev57
        refine sf_f1_le (fun h58 => absurd h58 (by omega)) (fun h58 => ?_)
        refine sf_iconst sf_c0 (fun z59 ez59 => ?_)
        refine sf_ireturn rfl rfl ?_
        exact hR _ _ Iw54 sw54 (by omega) (by omega) (by rw [uw54]; rw [c56]; first | (refine Or.inl ⟨by omega, ?_⟩; omega) | (refine Or.inr (Or.inl ⟨by omega, ?_⟩); omega) | (refine Or.inr (Or.inr ⟨by omega, ?_⟩); omega)) (by rw [uw54]; rw [c56]; rw [c55]; first | exact Or.inl ⟨by omega, rfl, by omega⟩ | exact Or.inr ⟨by omega, gpa2, by omega, by omega, by omega⟩) (by rw [uw54]; rw [c55]; first | exact Or.inl ⟨by omega, rfl⟩ | exact Or.inr ⟨by omega, u72⟩)
      · refine sf_iconst sf_c1 (fun z60 ez60 => ?_)
        refine sf_zreturn (by omega) rfl rfl ?_
        refine sf_f1_eq (fun h61 => absurd h61 (by omega)) (fun h61 => ?_)
        refine sf_aload rfl ?_
        refine sf_geti hI0 rfl rfl (fun v62 lv62 uv62 ev62 => ?_)
        refine sf_iconst sf_c24 (fun z63 ez63 => ?_)
        refine sf_f2_eq (fun h64 => ?_) (fun h64 => ?_)
        · refine sf_iconst sf_c2 (fun z65 ez65 => ?_)
          refine sf_puti hI0 hs0 rfl rfl (sf_bd _) rfl rfl rfl (fun w66 Iw66 sw66 kw66 uw66 => ?_)
          have c67 := sf_ma kw66 (p := 72) rfl
          have c68 := sf_mf kw66 (p := 71) (j := 1) rfl
          clear kw66
          have I9 := Iw66
          have q9 := c68
          refine sf_aload rfl ?_
          refine sf_geti Iw66 rfl rfl (fun v69 lv69 uv69 ev69 => ?_)
          rw [uw66] at ev69
          refine sf_f1_le (fun h70 => absurd h70 (by omega)) (fun h70 => ?_)
          refine sf_iconst sf_c0 (fun z71 ez71 => ?_)
          refine sf_ireturn rfl rfl ?_
          exact hR _ _ Iw66 sw66 (by omega) (by omega) (by rw [uw66]; rw [c68]; first | (refine Or.inl ⟨by omega, ?_⟩; omega) | (refine Or.inr (Or.inl ⟨by omega, ?_⟩); omega) | (refine Or.inr (Or.inr ⟨by omega, ?_⟩); omega)) (by rw [uw66]; rw [c68]; rw [c67]; first | exact Or.inl ⟨by omega, rfl, by omega⟩ | exact Or.inr ⟨by omega, gpa2, by omega, by omega, by omega⟩) (by rw [uw66]; rw [c67]; first | exact Or.inl ⟨by omega, rfl⟩ | exact Or.inr ⟨by omega, u72⟩)
        · refine sf_iload rfl ?_
          refine sf_f1_lt (fun h72 => absurd h72 (by omega)) (fun h72 => ?_)
          refine sf_aload rfl ?_
          refine sf_iload rfl ?_
          refine sf_call2 rfl rfl rfl ?_
          refine sf_rv hI0 rfl ?_
          refine sc_M_depthOf_J hI0 (by omega) (by omega) (by omega) (by omega) (by exact p0) (fun v73 lv73 uv73 q74_0 q74_1 => ?_)
          refine sf_iconst sf_c5 (fun z75 ez75 => ?_)
          refine sf_f2_eq (fun h76 => ?_) (fun h76 => ?_)
          · refine sf_iconst sf_c2 (fun z77 ez77 => ?_)
            refine sf_puti hI0 hs0 rfl rfl (sf_bd _) rfl rfl rfl (fun w78 Iw78 sw78 kw78 uw78 => ?_)
            have c79 := sf_ma kw78 (p := 72) rfl
            have c80 := sf_mf kw78 (p := 71) (j := 1) rfl
            clear kw78
            have I9 := Iw78
            have q9 := c80
            refine sf_aload rfl ?_
            refine sf_geti Iw78 rfl rfl (fun v81 lv81 uv81 ev81 => ?_)
            rw [uw78] at ev81
            refine sf_f1_le (fun h82 => absurd h82 (by omega)) (fun h82 => ?_)
            refine sf_iconst sf_c0 (fun z83 ez83 => ?_)
            refine sf_ireturn rfl rfl ?_
            exact hR _ _ Iw78 sw78 (by omega) (by omega) (by rw [uw78]; rw [c80]; first | (refine Or.inl ⟨by omega, ?_⟩; omega) | (refine Or.inr (Or.inl ⟨by omega, ?_⟩); omega) | (refine Or.inr (Or.inr ⟨by omega, ?_⟩); omega)) (by rw [uw78]; rw [c80]; rw [c79]; first | exact Or.inl ⟨by omega, rfl, by omega⟩ | exact Or.inr ⟨by omega, gpa2, by omega, by omega, by omega⟩) (by rw [uw78]; rw [c79]; first | exact Or.inl ⟨by omega, rfl⟩ | exact Or.inr ⟨by omega, u72⟩)
          · refine sf_iconst sf_c0 (fun z84 ez84 => ?_)
            refine sf_puti hI0 hs0 rfl rfl (sf_bd _) rfl rfl rfl (fun w85 Iw85 sw85 kw85 uw85 => ?_)
            have c86 := sf_ma kw85 (p := 72) rfl
            have c87 := sf_mf kw85 (p := 71) (j := 1) rfl
            clear kw85
            have I9 := Iw85
            have q9 := c87
            refine sf_aload rfl ?_
            refine sf_geti Iw85 rfl rfl (fun v88 lv88 uv88 ev88 => ?_)
            rw [uw85] at ev88
            refine sf_f1_le (fun h89 => ?_) (fun h89 => absurd h89 (by omega))
            refine sf_aload rfl ?_
            refine sf_getr Iw85 rfl rfl ?_
            refine sf_aload rfl ?_
            refine sf_geti Iw85 rfl rfl (fun v90 lv90 uv90 ev90 => ?_)
            rw [c87] at ev90
            refine sf_iload rfl ?_
            have g72 := c86
            refine sf_iastR Iw85 sw85 rfl (by omega) (by omega) rfl (fun w9 h1 h2 => sf_R_pa Iw85 h1 h2 (by omega) (by omega)) (fun w91 Iw91 sw91 kw91 uw91 => ?_)
            have c92 := sf_mf kw91 (p := 71) (j := 0) rfl
            have c93 := sf_mf kw91 (p := 71) (j := 1) rfl
            clear kw91
            have gpa := uw91
            have gp0 : (sf_a w91 72 0).toInt < 0 := by
              rw [gpa]; unfold upd; split
              · omega
              · have r1 := I9.2.1.2.1; rw [q9] at r1; omega
            have gpa2 := uw91
            have gi : v90.toInt = (sf_f w0 71 1).toInt := by omega
            rw [gi, g72] at gpa2
            have u72 := uw91
            rw [show v90.toInt = (sf_f w0 71 1).toInt by omega] at u72
            rw [c86] at u72
            refine sf_aload rfl ?_
            refine sf_getr Iw91 rfl rfl ?_
            refine sf_aload rfl ?_
            refine sf_geti Iw91 rfl rfl (fun v94 lv94 uv94 ev94 => ?_)
            rw [c93, c87] at ev94
            refine sf_iconst sf_cm1 (fun z95 ez95 => ?_)
            refine sf_iastR Iw91 sw91 rfl (by omega) (sf_bd _) rfl (fun w9 h1 h2 => sf_R_rk Iw91 h1 h2 (Or.inr gp0)) (fun w96 Iw96 sw96 kw96 uw96 => ?_)
            have c97 := sf_mf kw96 (p := 71) (j := 0) rfl
            have c98 := sf_ma kw96 (p := 72) rfl
            have c99 := sf_mf kw96 (p := 71) (j := 1) rfl
            clear kw96 uw96
            refine sf_aload rfl ?_
            refine sf_dup rfl ?_
            refine sf_geti Iw96 rfl rfl (fun v100 lv100 uv100 ev100 => ?_)
            rw [c99, c93, c87] at ev100
            refine sf_iconst sf_c1 (fun z101 ez101 => ?_)
            refine sf_iadd (by omega) (fun v102 ev102 => ?_)
            refine sf_putiR Iw96 sw96 rfl rfl (by omega) rfl rfl (fun w9 h1 _ => sf_R_hd Iw96 h1 (by rw [c98]; exact gp0)) (fun w103 Iw103 sw103 kw103 uw103 => ?_)
            have c104 := sf_mf kw103 (p := 71) (j := 0) rfl
            have c105 := sf_ma kw103 (p := 72) rfl
            clear kw103
            refine sf_aload rfl ?_
            refine sf_geti Iw103 rfl rfl (fun v106 lv106 uv106 ev106 => ?_)
            rw [uw103] at ev106
            refine sf_iconst sf_c1 (fun z107 ez107 => ?_)
            refine sf_isub (by omega) (fun v108 ev108 => ?_)
            refine sf_ireturn rfl rfl ?_
            exact hR _ _ Iw103 sw103 (by omega) (by omega) (by rw [c104, c97, c92, uw85]; rw [uw103]; first | (refine Or.inl ⟨by omega, ?_⟩; omega) | (refine Or.inr (Or.inl ⟨by omega, ?_⟩); omega) | (refine Or.inr (Or.inr ⟨by omega, ?_⟩); omega)) (by rw [c104, c97, c92, uw85]; rw [uw103]; rw [c105, c98]; first | exact Or.inl ⟨by omega, rfl, by omega⟩ | exact Or.inr ⟨by omega, gpa2, by omega, by omega, by omega⟩) (by rw [c104, c97, c92, uw85]; rw [c105, c98]; first | exact Or.inl ⟨by omega, rfl⟩ | exact Or.inr ⟨by omega, u72⟩)
def sm_M_note : List Nat := [71, 75, 76, 77, 78, 8100, 8105]
set_option maxRecDepth 100000 in
set_option maxHeartbeats 4000000 in
theorem sc_M_note {w0 : wq_W} (hI0 : sf_I w0) {rt : Option wq_V → wq_W → Prop} {xt : Nat → wq_W → Prop} {a_heading : Int32} {a_kind : Int32} {a_fact : Int32} {a_amount : Int32}  (hR : ∀ (r : Int32) (w : wq_W), sf_I w → sf_m sm_M_note w0 w → 0 ≤ r.toInt → r.toInt ≤ 40 → ((((sf_f w 71 0).toInt = 0 ∧ (0 ≤ a_heading.toInt ∧ a_heading.toInt < (sf_f w0 71 1).toInt ∧ 0 ≤ a_kind.toInt ∧ a_kind.toInt ≤ 2 ∧ 0 ≤ a_fact.toInt ∧ a_fact.toInt ≤ 7 ∧ 1 ≤ a_amount.toInt ∧ a_amount.toInt ≤ 1000 ∧ (a_kind.toInt ≠ 2 ∨ a_fact.toInt < 4)) ∧ ((sf_f w0 71 5).toInt < 40) ∧ (sf_f w 71 5).toInt = (sf_f w0 71 5).toInt + 1 ∧ r.toInt = (sf_f w0 71 5).toInt) ∨ ((sf_f w 71 0).toInt = 1 ∧ ¬ (0 ≤ a_heading.toInt ∧ a_heading.toInt < (sf_f w0 71 1).toInt ∧ 0 ≤ a_kind.toInt ∧ a_kind.toInt ≤ 2 ∧ 0 ≤ a_fact.toInt ∧ a_fact.toInt ≤ 7 ∧ 1 ≤ a_amount.toInt ∧ a_amount.toInt ≤ 1000 ∧ (a_kind.toInt ≠ 2 ∨ a_fact.toInt < 4)) ∧ (sf_f w 71 5).toInt = (sf_f w0 71 5).toInt) ∨ ((sf_f w 71 0).toInt = 2 ∧ (0 ≤ a_heading.toInt ∧ a_heading.toInt < (sf_f w0 71 1).toInt ∧ 0 ≤ a_kind.toInt ∧ a_kind.toInt ≤ 2 ∧ 0 ≤ a_fact.toInt ∧ a_fact.toInt ≤ 7 ∧ 1 ≤ a_amount.toInt ∧ a_amount.toInt ≤ 1000 ∧ (a_kind.toInt ≠ 2 ∨ a_fact.toInt < 4)) ∧ ¬ ((sf_f w0 71 5).toInt < 40) ∧ (sf_f w 71 5).toInt = (sf_f w0 71 5).toInt))) → (sf_U (sf_a w0 75) (sf_a w 75) (sf_f w0 71 5).toInt (sf_f w 71 0).toInt a_heading) → (sf_U (sf_a w0 76) (sf_a w 76) (sf_f w0 71 5).toInt (sf_f w 71 0).toInt a_kind) → (sf_U (sf_a w0 77) (sf_a w 77) (sf_f w0 71 5).toInt (sf_f w 71 0).toInt a_fact) → (sf_U (sf_a w0 78) (sf_a w 78) (sf_f w0 71 5).toInt (sf_f w 71 0).toInt a_amount) → rt (some (.inl (.int r))) w) : ks_M_note [.inl (.ref 71), .inl (.int a_heading), .inl (.int a_kind), .inl (.int a_fact), .inl (.int a_amount)] w0 rt xt := by
  have hs0 : sf_m sm_M_note w0 w0 := sf_m0
  refine sf_sp (L := [(0, .inl (.ref 71)), (1, .inl (.int a_heading)), (2, .inl (.int a_kind)), (3, .inl (.int a_fact)), (4, .inl (.int a_amount))]) rfl rfl ?_
  refine sf_aload rfl ?_
  refine sf_iload rfl ?_
  refine sf_call2 rfl rfl rfl ?_
  refine sf_rv hI0 rfl ?_
  refine sf_sp (L := [(0, .inl (.ref 71)), (1, .inl (.int a_heading))]) rfl rfl ?_
  refine sf_iload rfl ?_
  refine sf_f1_lt (fun h1 => ?_) (fun h1 => ?_)
  · refine sf_iconst sf_c0 (fun z2 ez2 => ?_)
    refine sf_zreturn (by omega) rfl rfl ?_
    refine sf_f1_eq (fun h3 => ?_) (fun h3 => absurd h3 (by omega))
    refine sf_iconst sf_c0 (fun z4 ez4 => ?_)
    refine sf_istore (L' := [(0, .inl (.ref 71)), (1, .inl (.int a_heading)), (2, .inl (.int a_kind)), (3, .inl (.int a_fact)), (4, .inl (.int a_amount))]) rfl ?_
    refine sf_aload rfl ?_
    refine sf_iload rfl ?_
    refine sf_f1_eq (fun h5 => ?_) (fun h5 => absurd h5 (by omega))
    refine sf_iconst sf_c1 (fun z6 ez6 => ?_)
    refine sf_puti hI0 hs0 rfl rfl (sf_bd _) rfl rfl rfl (fun w7 Iw7 sw7 kw7 uw7 => ?_)
    have c8 := sf_mf kw7 (p := 71) (j := 5) rfl
    have c9 := sf_ma kw7 (p := 75) rfl
    have c10 := sf_ma kw7 (p := 76) rfl
    have c11 := sf_ma kw7 (p := 77) rfl
    have c12 := sf_ma kw7 (p := 78) rfl
    clear kw7
    refine sf_aload rfl ?_
    refine sf_geti Iw7 rfl rfl (fun v13 lv13 uv13 ev13 => ?_)
    rw [uw7] at ev13
    refine sf_f1_le (fun h14 => absurd h14 (by omega)) (fun h14 => ?_)
    refine sf_iconst sf_c0 (fun z15 ez15 => ?_)
    refine sf_ireturn rfl rfl ?_
    exact hR _ _ Iw7 sw7 (by omega) (by omega) (by rw [uw7]; rw [c8]; first | (refine Or.inl ⟨by omega, ?_⟩; omega) | (refine Or.inr (Or.inl ⟨by omega, ?_⟩); omega) | (refine Or.inr (Or.inr ⟨by omega, ?_⟩); omega)) (by rw [uw7]; rw [c9]; first | exact Or.inl ⟨by omega, rfl⟩ | exact Or.inr ⟨by omega, u75⟩) (by rw [uw7]; rw [c10]; first | exact Or.inl ⟨by omega, rfl⟩ | exact Or.inr ⟨by omega, u76⟩) (by rw [uw7]; rw [c11]; first | exact Or.inl ⟨by omega, rfl⟩ | exact Or.inr ⟨by omega, u77⟩) (by rw [uw7]; rw [c12]; first | exact Or.inl ⟨by omega, rfl⟩ | exact Or.inr ⟨by omega, u78⟩)
  · refine sf_iload rfl ?_
    refine sf_aload rfl ?_
    refine sf_geti hI0 rfl rfl (fun v16 lv16 uv16 ev16 => ?_)
    refine sf_f2_ge (fun h17 => ?_) (fun h17 => ?_)
    · refine sf_iconst sf_c0 (fun z18 ez18 => ?_)
      refine sf_zreturn (by omega) rfl rfl ?_
      refine sf_f1_eq (fun h19 => ?_) (fun h19 => absurd h19 (by omega))
      refine sf_iconst sf_c0 (fun z20 ez20 => ?_)
      refine sf_istore (L' := [(0, .inl (.ref 71)), (1, .inl (.int a_heading)), (2, .inl (.int a_kind)), (3, .inl (.int a_fact)), (4, .inl (.int a_amount))]) rfl ?_
      refine sf_aload rfl ?_
      refine sf_iload rfl ?_
      refine sf_f1_eq (fun h21 => ?_) (fun h21 => absurd h21 (by omega))
      refine sf_iconst sf_c1 (fun z22 ez22 => ?_)
      refine sf_puti hI0 hs0 rfl rfl (sf_bd _) rfl rfl rfl (fun w23 Iw23 sw23 kw23 uw23 => ?_)
      have c24 := sf_mf kw23 (p := 71) (j := 5) rfl
      have c25 := sf_ma kw23 (p := 75) rfl
      have c26 := sf_ma kw23 (p := 76) rfl
      have c27 := sf_ma kw23 (p := 77) rfl
      have c28 := sf_ma kw23 (p := 78) rfl
      clear kw23
      refine sf_aload rfl ?_
      refine sf_geti Iw23 rfl rfl (fun v29 lv29 uv29 ev29 => ?_)
      rw [uw23] at ev29
      refine sf_f1_le (fun h30 => absurd h30 (by omega)) (fun h30 => ?_)
      refine sf_iconst sf_c0 (fun z31 ez31 => ?_)
      refine sf_ireturn rfl rfl ?_
      exact hR _ _ Iw23 sw23 (by omega) (by omega) (by rw [uw23]; rw [c24]; first | (refine Or.inl ⟨by omega, ?_⟩; omega) | (refine Or.inr (Or.inl ⟨by omega, ?_⟩); omega) | (refine Or.inr (Or.inr ⟨by omega, ?_⟩); omega)) (by rw [uw23]; rw [c25]; first | exact Or.inl ⟨by omega, rfl⟩ | exact Or.inr ⟨by omega, u75⟩) (by rw [uw23]; rw [c26]; first | exact Or.inl ⟨by omega, rfl⟩ | exact Or.inr ⟨by omega, u76⟩) (by rw [uw23]; rw [c27]; first | exact Or.inl ⟨by omega, rfl⟩ | exact Or.inr ⟨by omega, u77⟩) (by rw [uw23]; rw [c28]; first | exact Or.inl ⟨by omega, rfl⟩ | exact Or.inr ⟨by omega, u78⟩)
    · refine sf_iconst sf_c1 (fun z32 ez32 => ?_)
      refine sf_zreturn (by omega) rfl rfl ?_
      refine sf_f1_eq (fun h33 => absurd h33 (by omega)) (fun h33 => ?_)
      refine sf_iload rfl ?_
      refine sf_iconst sf_c0 (fun z34 ez34 => ?_)
      refine sf_iconst sf_c2 (fun z35 ez35 => ?_)
      refine sf_call3 rfl rfl rfl ?_
      refine sf_sp (L := [(0, .inl (.int a_kind)), (1, .inl (.int z34)), (2, .inl (.int z35))]) rfl rfl ?_
      refine sf_iload rfl ?_
      refine sf_iload rfl ?_
      refine sf_f2_lt (fun h36 => ?_) (fun h36 => ?_)
      · refine sf_iconst sf_c0 (fun z37 ez37 => ?_)
        refine sf_zreturn (by omega) rfl rfl ?_
        refine sf_f1_eq (fun h38 => ?_) (fun h38 => absurd h38 (by omega))
        refine sf_iconst sf_c0 (fun z39 ez39 => ?_)
        refine sf_istore (L' := [(0, .inl (.ref 71)), (1, .inl (.int a_heading)), (2, .inl (.int a_kind)), (3, .inl (.int a_fact)), (4, .inl (.int a_amount))]) rfl ?_
        refine sf_aload rfl ?_
        refine sf_iload rfl ?_
        refine sf_f1_eq (fun h40 => ?_) (fun h40 => absurd h40 (by omega))
        refine sf_iconst sf_c1 (fun z41 ez41 => ?_)
        refine sf_puti hI0 hs0 rfl rfl (sf_bd _) rfl rfl rfl (fun w42 Iw42 sw42 kw42 uw42 => ?_)
        have c43 := sf_mf kw42 (p := 71) (j := 5) rfl
        have c44 := sf_ma kw42 (p := 75) rfl
        have c45 := sf_ma kw42 (p := 76) rfl
        have c46 := sf_ma kw42 (p := 77) rfl
        have c47 := sf_ma kw42 (p := 78) rfl
        clear kw42
        refine sf_aload rfl ?_
        refine sf_geti Iw42 rfl rfl (fun v48 lv48 uv48 ev48 => ?_)
        rw [uw42] at ev48
        refine sf_f1_le (fun h49 => absurd h49 (by omega)) (fun h49 => ?_)
        refine sf_iconst sf_c0 (fun z50 ez50 => ?_)
        refine sf_ireturn rfl rfl ?_
        exact hR _ _ Iw42 sw42 (by omega) (by omega) (by rw [uw42]; rw [c43]; first | (refine Or.inl ⟨by omega, ?_⟩; omega) | (refine Or.inr (Or.inl ⟨by omega, ?_⟩); omega) | (refine Or.inr (Or.inr ⟨by omega, ?_⟩); omega)) (by rw [uw42]; rw [c44]; first | exact Or.inl ⟨by omega, rfl⟩ | exact Or.inr ⟨by omega, u75⟩) (by rw [uw42]; rw [c45]; first | exact Or.inl ⟨by omega, rfl⟩ | exact Or.inr ⟨by omega, u76⟩) (by rw [uw42]; rw [c46]; first | exact Or.inl ⟨by omega, rfl⟩ | exact Or.inr ⟨by omega, u77⟩) (by rw [uw42]; rw [c47]; first | exact Or.inl ⟨by omega, rfl⟩ | exact Or.inr ⟨by omega, u78⟩)
      · refine sf_iload rfl ?_
        refine sf_iload rfl ?_
        refine sf_f2_gt (fun h51 => ?_) (fun h51 => ?_)
        · refine sf_iconst sf_c0 (fun z52 ez52 => ?_)
          refine sf_zreturn (by omega) rfl rfl ?_
          refine sf_f1_eq (fun h53 => ?_) (fun h53 => absurd h53 (by omega))
          refine sf_iconst sf_c0 (fun z54 ez54 => ?_)
          refine sf_istore (L' := [(0, .inl (.ref 71)), (1, .inl (.int a_heading)), (2, .inl (.int a_kind)), (3, .inl (.int a_fact)), (4, .inl (.int a_amount))]) rfl ?_
          refine sf_aload rfl ?_
          refine sf_iload rfl ?_
          refine sf_f1_eq (fun h55 => ?_) (fun h55 => absurd h55 (by omega))
          refine sf_iconst sf_c1 (fun z56 ez56 => ?_)
          refine sf_puti hI0 hs0 rfl rfl (sf_bd _) rfl rfl rfl (fun w57 Iw57 sw57 kw57 uw57 => ?_)
          have c58 := sf_mf kw57 (p := 71) (j := 5) rfl
          have c59 := sf_ma kw57 (p := 75) rfl
          have c60 := sf_ma kw57 (p := 76) rfl
          have c61 := sf_ma kw57 (p := 77) rfl
          have c62 := sf_ma kw57 (p := 78) rfl
          clear kw57
          refine sf_aload rfl ?_
          refine sf_geti Iw57 rfl rfl (fun v63 lv63 uv63 ev63 => ?_)
          rw [uw57] at ev63
          refine sf_f1_le (fun h64 => absurd h64 (by omega)) (fun h64 => ?_)
          refine sf_iconst sf_c0 (fun z65 ez65 => ?_)
          refine sf_ireturn rfl rfl ?_
          exact hR _ _ Iw57 sw57 (by omega) (by omega) (by rw [uw57]; rw [c58]; first | (refine Or.inl ⟨by omega, ?_⟩; omega) | (refine Or.inr (Or.inl ⟨by omega, ?_⟩); omega) | (refine Or.inr (Or.inr ⟨by omega, ?_⟩); omega)) (by rw [uw57]; rw [c59]; first | exact Or.inl ⟨by omega, rfl⟩ | exact Or.inr ⟨by omega, u75⟩) (by rw [uw57]; rw [c60]; first | exact Or.inl ⟨by omega, rfl⟩ | exact Or.inr ⟨by omega, u76⟩) (by rw [uw57]; rw [c61]; first | exact Or.inl ⟨by omega, rfl⟩ | exact Or.inr ⟨by omega, u77⟩) (by rw [uw57]; rw [c62]; first | exact Or.inl ⟨by omega, rfl⟩ | exact Or.inr ⟨by omega, u78⟩)
        · refine sf_iconst sf_c1 (fun z66 ez66 => ?_)
          refine sf_zreturn (by omega) rfl rfl ?_
          refine sf_f1_eq (fun h67 => absurd h67 (by omega)) (fun h67 => ?_)
          refine sf_iload rfl ?_
          refine sf_iconst sf_c0 (fun z68 ez68 => ?_)
          refine sf_iload rfl ?_
          refine sf_iconst sf_c2 (fun z69 ez69 => ?_)
          refine sf_f2_eq (fun h70 => ?_) (fun h70 => ?_)
          · refine sf_iconst sf_c3 (fun z71 ez71 => ?_)
            refine sf_call3 rfl rfl rfl ?_
            refine sf_sp (L := [(0, .inl (.int a_fact)), (1, .inl (.int z68)), (2, .inl (.int z71))]) rfl rfl ?_
            refine sf_iload rfl ?_
            refine sf_iload rfl ?_
            refine sf_f2_lt (fun h72 => ?_) (fun h72 => ?_)
            · refine sf_iconst sf_c0 (fun z73 ez73 => ?_)
              refine sf_zreturn (by omega) rfl rfl ?_
              refine sf_f1_eq (fun h74 => ?_) (fun h74 => absurd h74 (by omega))
              refine sf_iconst sf_c0 (fun z75 ez75 => ?_)
              refine sf_istore (L' := [(0, .inl (.ref 71)), (1, .inl (.int a_heading)), (2, .inl (.int a_kind)), (3, .inl (.int a_fact)), (4, .inl (.int a_amount))]) rfl ?_
              refine sf_aload rfl ?_
              refine sf_iload rfl ?_
              refine sf_f1_eq (fun h76 => ?_) (fun h76 => absurd h76 (by omega))
              refine sf_iconst sf_c1 (fun z77 ez77 => ?_)
              refine sf_puti hI0 hs0 rfl rfl (sf_bd _) rfl rfl rfl (fun w78 Iw78 sw78 kw78 uw78 => ?_)
              have c79 := sf_mf kw78 (p := 71) (j := 5) rfl
              have c80 := sf_ma kw78 (p := 75) rfl
              have c81 := sf_ma kw78 (p := 76) rfl
              have c82 := sf_ma kw78 (p := 77) rfl
              have c83 := sf_ma kw78 (p := 78) rfl
              clear kw78
              refine sf_aload rfl ?_
              refine sf_geti Iw78 rfl rfl (fun v84 lv84 uv84 ev84 => ?_)
              rw [uw78] at ev84
              refine sf_f1_le (fun h85 => absurd h85 (by omega)) (fun h85 => ?_)
              refine sf_iconst sf_c0 (fun z86 ez86 => ?_)
              refine sf_ireturn rfl rfl ?_
              exact hR _ _ Iw78 sw78 (by omega) (by omega) (by rw [uw78]; rw [c79]; first | (refine Or.inl ⟨by omega, ?_⟩; omega) | (refine Or.inr (Or.inl ⟨by omega, ?_⟩); omega) | (refine Or.inr (Or.inr ⟨by omega, ?_⟩); omega)) (by rw [uw78]; rw [c80]; first | exact Or.inl ⟨by omega, rfl⟩ | exact Or.inr ⟨by omega, u75⟩) (by rw [uw78]; rw [c81]; first | exact Or.inl ⟨by omega, rfl⟩ | exact Or.inr ⟨by omega, u76⟩) (by rw [uw78]; rw [c82]; first | exact Or.inl ⟨by omega, rfl⟩ | exact Or.inr ⟨by omega, u77⟩) (by rw [uw78]; rw [c83]; first | exact Or.inl ⟨by omega, rfl⟩ | exact Or.inr ⟨by omega, u78⟩)
            · refine sf_iload rfl ?_
              refine sf_iload rfl ?_
              refine sf_f2_gt (fun h87 => ?_) (fun h87 => ?_)
              · refine sf_iconst sf_c0 (fun z88 ez88 => ?_)
                refine sf_zreturn (by omega) rfl rfl ?_
                refine sf_f1_eq (fun h89 => ?_) (fun h89 => absurd h89 (by omega))
                refine sf_iconst sf_c0 (fun z90 ez90 => ?_)
                refine sf_istore (L' := [(0, .inl (.ref 71)), (1, .inl (.int a_heading)), (2, .inl (.int a_kind)), (3, .inl (.int a_fact)), (4, .inl (.int a_amount))]) rfl ?_
                refine sf_aload rfl ?_
                refine sf_iload rfl ?_
                refine sf_f1_eq (fun h91 => ?_) (fun h91 => absurd h91 (by omega))
                refine sf_iconst sf_c1 (fun z92 ez92 => ?_)
                refine sf_puti hI0 hs0 rfl rfl (sf_bd _) rfl rfl rfl (fun w93 Iw93 sw93 kw93 uw93 => ?_)
                have c94 := sf_mf kw93 (p := 71) (j := 5) rfl
                have c95 := sf_ma kw93 (p := 75) rfl
                have c96 := sf_ma kw93 (p := 76) rfl
                have c97 := sf_ma kw93 (p := 77) rfl
                have c98 := sf_ma kw93 (p := 78) rfl
                clear kw93
                refine sf_aload rfl ?_
                refine sf_geti Iw93 rfl rfl (fun v99 lv99 uv99 ev99 => ?_)
                rw [uw93] at ev99
                refine sf_f1_le (fun h100 => absurd h100 (by omega)) (fun h100 => ?_)
                refine sf_iconst sf_c0 (fun z101 ez101 => ?_)
                refine sf_ireturn rfl rfl ?_
                exact hR _ _ Iw93 sw93 (by omega) (by omega) (by rw [uw93]; rw [c94]; first | (refine Or.inl ⟨by omega, ?_⟩; omega) | (refine Or.inr (Or.inl ⟨by omega, ?_⟩); omega) | (refine Or.inr (Or.inr ⟨by omega, ?_⟩); omega)) (by rw [uw93]; rw [c95]; first | exact Or.inl ⟨by omega, rfl⟩ | exact Or.inr ⟨by omega, u75⟩) (by rw [uw93]; rw [c96]; first | exact Or.inl ⟨by omega, rfl⟩ | exact Or.inr ⟨by omega, u76⟩) (by rw [uw93]; rw [c97]; first | exact Or.inl ⟨by omega, rfl⟩ | exact Or.inr ⟨by omega, u77⟩) (by rw [uw93]; rw [c98]; first | exact Or.inl ⟨by omega, rfl⟩ | exact Or.inr ⟨by omega, u78⟩)
              · refine sf_iconst sf_c1 (fun z102 ez102 => ?_)
                refine sf_zreturn (by omega) rfl rfl ?_
                refine sf_f1_eq (fun h103 => absurd h103 (by omega)) (fun h103 => ?_)
                refine sf_iload rfl ?_
                refine sf_iconst sf_c1 (fun z104 ez104 => ?_)
                refine sf_iconst sf_c1000 (fun z105 ez105 => ?_)
                refine sf_call3 rfl rfl rfl ?_
                refine sf_sp (L := [(0, .inl (.int a_amount)), (1, .inl (.int z104)), (2, .inl (.int z105))]) rfl rfl ?_
                refine sf_iload rfl ?_
                refine sf_iload rfl ?_
                refine sf_f2_lt (fun h106 => ?_) (fun h106 => ?_)
                · refine sf_iconst sf_c0 (fun z107 ez107 => ?_)
                  refine sf_zreturn (by omega) rfl rfl ?_
                  refine sf_f1_eq (fun h108 => ?_) (fun h108 => absurd h108 (by omega))
                  refine sf_iconst sf_c0 (fun z109 ez109 => ?_)
                  refine sf_istore (L' := [(0, .inl (.ref 71)), (1, .inl (.int a_heading)), (2, .inl (.int a_kind)), (3, .inl (.int a_fact)), (4, .inl (.int a_amount))]) rfl ?_
                  refine sf_aload rfl ?_
                  refine sf_iload rfl ?_
                  refine sf_f1_eq (fun h110 => ?_) (fun h110 => absurd h110 (by omega))
                  refine sf_iconst sf_c1 (fun z111 ez111 => ?_)
                  refine sf_puti hI0 hs0 rfl rfl (sf_bd _) rfl rfl rfl (fun w112 Iw112 sw112 kw112 uw112 => ?_)
                  have c113 := sf_mf kw112 (p := 71) (j := 5) rfl
                  have c114 := sf_ma kw112 (p := 75) rfl
                  have c115 := sf_ma kw112 (p := 76) rfl
                  have c116 := sf_ma kw112 (p := 77) rfl
                  have c117 := sf_ma kw112 (p := 78) rfl
                  clear kw112
                  refine sf_aload rfl ?_
                  refine sf_geti Iw112 rfl rfl (fun v118 lv118 uv118 ev118 => ?_)
                  rw [uw112] at ev118
                  refine sf_f1_le (fun h119 => absurd h119 (by omega)) (fun h119 => ?_)
                  refine sf_iconst sf_c0 (fun z120 ez120 => ?_)
                  refine sf_ireturn rfl rfl ?_
                  exact hR _ _ Iw112 sw112 (by omega) (by omega) (by rw [uw112]; rw [c113]; first | (refine Or.inl ⟨by omega, ?_⟩; omega) | (refine Or.inr (Or.inl ⟨by omega, ?_⟩); omega) | (refine Or.inr (Or.inr ⟨by omega, ?_⟩); omega)) (by rw [uw112]; rw [c114]; first | exact Or.inl ⟨by omega, rfl⟩ | exact Or.inr ⟨by omega, u75⟩) (by rw [uw112]; rw [c115]; first | exact Or.inl ⟨by omega, rfl⟩ | exact Or.inr ⟨by omega, u76⟩) (by rw [uw112]; rw [c116]; first | exact Or.inl ⟨by omega, rfl⟩ | exact Or.inr ⟨by omega, u77⟩) (by rw [uw112]; rw [c117]; first | exact Or.inl ⟨by omega, rfl⟩ | exact Or.inr ⟨by omega, u78⟩)
                · refine sf_iload rfl ?_
                  refine sf_iload rfl ?_
                  refine sf_f2_gt (fun h121 => ?_) (fun h121 => ?_)
                  · refine sf_iconst sf_c0 (fun z122 ez122 => ?_)
                    refine sf_zreturn (by omega) rfl rfl ?_
                    refine sf_f1_eq (fun h123 => ?_) (fun h123 => absurd h123 (by omega))
                    refine sf_iconst sf_c0 (fun z124 ez124 => ?_)
                    refine sf_istore (L' := [(0, .inl (.ref 71)), (1, .inl (.int a_heading)), (2, .inl (.int a_kind)), (3, .inl (.int a_fact)), (4, .inl (.int a_amount))]) rfl ?_
                    refine sf_aload rfl ?_
                    refine sf_iload rfl ?_
                    refine sf_f1_eq (fun h125 => ?_) (fun h125 => absurd h125 (by omega))
                    refine sf_iconst sf_c1 (fun z126 ez126 => ?_)
                    refine sf_puti hI0 hs0 rfl rfl (sf_bd _) rfl rfl rfl (fun w127 Iw127 sw127 kw127 uw127 => ?_)
                    have c128 := sf_mf kw127 (p := 71) (j := 5) rfl
                    have c129 := sf_ma kw127 (p := 75) rfl
                    have c130 := sf_ma kw127 (p := 76) rfl
                    have c131 := sf_ma kw127 (p := 77) rfl
                    have c132 := sf_ma kw127 (p := 78) rfl
                    clear kw127
                    refine sf_aload rfl ?_
                    refine sf_geti Iw127 rfl rfl (fun v133 lv133 uv133 ev133 => ?_)
                    rw [uw127] at ev133
                    refine sf_f1_le (fun h134 => absurd h134 (by omega)) (fun h134 => ?_)
                    refine sf_iconst sf_c0 (fun z135 ez135 => ?_)
                    refine sf_ireturn rfl rfl ?_
                    exact hR _ _ Iw127 sw127 (by omega) (by omega) (by rw [uw127]; rw [c128]; first | (refine Or.inl ⟨by omega, ?_⟩; omega) | (refine Or.inr (Or.inl ⟨by omega, ?_⟩); omega) | (refine Or.inr (Or.inr ⟨by omega, ?_⟩); omega)) (by rw [uw127]; rw [c129]; first | exact Or.inl ⟨by omega, rfl⟩ | exact Or.inr ⟨by omega, u75⟩) (by rw [uw127]; rw [c130]; first | exact Or.inl ⟨by omega, rfl⟩ | exact Or.inr ⟨by omega, u76⟩) (by rw [uw127]; rw [c131]; first | exact Or.inl ⟨by omega, rfl⟩ | exact Or.inr ⟨by omega, u77⟩) (by rw [uw127]; rw [c132]; first | exact Or.inl ⟨by omega, rfl⟩ | exact Or.inr ⟨by omega, u78⟩)
                  · refine sf_iconst sf_c1 (fun z136 ez136 => ?_)
                    refine sf_zreturn (by omega) rfl rfl ?_
                    refine sf_f1_eq (fun h137 => absurd h137 (by omega)) (fun h137 => ?_)
                    refine sf_iconst sf_c1 (fun z138 ez138 => ?_)
                    refine sf_istore (L' := [(0, .inl (.ref 71)), (1, .inl (.int a_heading)), (2, .inl (.int a_kind)), (3, .inl (.int a_fact)), (4, .inl (.int a_amount))]) rfl ?_
                    refine sf_aload rfl ?_
                    refine sf_iload rfl ?_
                    refine sf_f1_eq (fun h139 => absurd h139 (by omega)) (fun h139 => ?_)
                    refine sf_aload rfl ?_
                    refine sf_geti hI0 rfl rfl (fun v140 lv140 uv140 ev140 => ?_)
                    refine sf_iconst sf_c40 (fun z141 ez141 => ?_)
                    refine sf_f2_eq (fun h142 => ?_) (fun h142 => ?_)
                    · refine sf_iconst sf_c2 (fun z143 ez143 => ?_)
                      refine sf_puti hI0 hs0 rfl rfl (sf_bd _) rfl rfl rfl (fun w144 Iw144 sw144 kw144 uw144 => ?_)
                      have c145 := sf_mf kw144 (p := 71) (j := 5) rfl
                      have c146 := sf_ma kw144 (p := 75) rfl
                      have c147 := sf_ma kw144 (p := 76) rfl
                      have c148 := sf_ma kw144 (p := 77) rfl
                      have c149 := sf_ma kw144 (p := 78) rfl
                      clear kw144
                      refine sf_aload rfl ?_
                      refine sf_geti Iw144 rfl rfl (fun v150 lv150 uv150 ev150 => ?_)
                      rw [uw144] at ev150
                      refine sf_f1_le (fun h151 => absurd h151 (by omega)) (fun h151 => ?_)
                      refine sf_iconst sf_c0 (fun z152 ez152 => ?_)
                      refine sf_ireturn rfl rfl ?_
                      exact hR _ _ Iw144 sw144 (by omega) (by omega) (by rw [uw144]; rw [c145]; first | (refine Or.inl ⟨by omega, ?_⟩; omega) | (refine Or.inr (Or.inl ⟨by omega, ?_⟩); omega) | (refine Or.inr (Or.inr ⟨by omega, ?_⟩); omega)) (by rw [uw144]; rw [c146]; first | exact Or.inl ⟨by omega, rfl⟩ | exact Or.inr ⟨by omega, u75⟩) (by rw [uw144]; rw [c147]; first | exact Or.inl ⟨by omega, rfl⟩ | exact Or.inr ⟨by omega, u76⟩) (by rw [uw144]; rw [c148]; first | exact Or.inl ⟨by omega, rfl⟩ | exact Or.inr ⟨by omega, u77⟩) (by rw [uw144]; rw [c149]; first | exact Or.inl ⟨by omega, rfl⟩ | exact Or.inr ⟨by omega, u78⟩)
                    · refine sf_iconst sf_c0 (fun z153 ez153 => ?_)
                      refine sf_puti hI0 hs0 rfl rfl (sf_bd _) rfl rfl rfl (fun w154 Iw154 sw154 kw154 uw154 => ?_)
                      have c155 := sf_mf kw154 (p := 71) (j := 5) rfl
                      have c156 := sf_ma kw154 (p := 75) rfl
                      have c157 := sf_ma kw154 (p := 76) rfl
                      have c158 := sf_ma kw154 (p := 77) rfl
                      have c159 := sf_ma kw154 (p := 78) rfl
                      clear kw154
                      refine sf_aload rfl ?_
                      refine sf_geti Iw154 rfl rfl (fun v160 lv160 uv160 ev160 => ?_)
                      rw [uw154] at ev160
                      refine sf_f1_le (fun h161 => ?_) (fun h161 => absurd h161 (by omega))
                      refine sf_aload rfl ?_
                      refine sf_getr Iw154 rfl rfl ?_
                      refine sf_aload rfl ?_
                      refine sf_geti Iw154 rfl rfl (fun v162 lv162 uv162 ev162 => ?_)
                      rw [c155] at ev162
                      refine sf_iload rfl ?_
                      refine sf_iast Iw154 sw154 rfl (by omega) (sf_bd _) rfl rfl (fun w163 Iw163 sw163 kw163 uw163 => ?_)
                      have c164 := sf_mf kw163 (p := 71) (j := 0) rfl
                      have c165 := sf_mf kw163 (p := 71) (j := 5) rfl
                      have c166 := sf_ma kw163 (p := 76) rfl
                      have c167 := sf_ma kw163 (p := 77) rfl
                      have c168 := sf_ma kw163 (p := 78) rfl
                      clear kw163
                      have u75 := uw163
                      rw [show v162.toInt = (sf_f w0 71 5).toInt by omega] at u75
                      rw [c156] at u75
                      refine sf_aload rfl ?_
                      refine sf_getr Iw163 rfl rfl ?_
                      refine sf_aload rfl ?_
                      refine sf_geti Iw163 rfl rfl (fun v169 lv169 uv169 ev169 => ?_)
                      rw [c165, c155] at ev169
                      refine sf_iload rfl ?_
                      refine sf_iast Iw163 sw163 rfl (by omega) (sf_bd _) rfl rfl (fun w170 Iw170 sw170 kw170 uw170 => ?_)
                      have c171 := sf_mf kw170 (p := 71) (j := 0) rfl
                      have c172 := sf_mf kw170 (p := 71) (j := 5) rfl
                      have c173 := sf_ma kw170 (p := 75) rfl
                      have c174 := sf_ma kw170 (p := 77) rfl
                      have c175 := sf_ma kw170 (p := 78) rfl
                      clear kw170
                      have u76 := uw170
                      rw [show v169.toInt = (sf_f w0 71 5).toInt by omega] at u76
                      rw [c166, c157] at u76
                      refine sf_aload rfl ?_
                      refine sf_getr Iw170 rfl rfl ?_
                      refine sf_aload rfl ?_
                      refine sf_geti Iw170 rfl rfl (fun v176 lv176 uv176 ev176 => ?_)
                      rw [c172, c165, c155] at ev176
                      refine sf_iload rfl ?_
                      refine sf_iast Iw170 sw170 rfl (by omega) (by omega) rfl rfl (fun w177 Iw177 sw177 kw177 uw177 => ?_)
                      have c178 := sf_mf kw177 (p := 71) (j := 0) rfl
                      have c179 := sf_mf kw177 (p := 71) (j := 5) rfl
                      have c180 := sf_ma kw177 (p := 75) rfl
                      have c181 := sf_ma kw177 (p := 76) rfl
                      have c182 := sf_ma kw177 (p := 78) rfl
                      clear kw177
                      have u77 := uw177
                      rw [show v176.toInt = (sf_f w0 71 5).toInt by omega] at u77
                      rw [c174, c167, c158] at u77
                      refine sf_aload rfl ?_
                      refine sf_getr Iw177 rfl rfl ?_
                      refine sf_aload rfl ?_
                      refine sf_geti Iw177 rfl rfl (fun v183 lv183 uv183 ev183 => ?_)
                      rw [c179, c172, c165, c155] at ev183
                      refine sf_iload rfl ?_
                      refine sf_iast Iw177 sw177 rfl (by omega) (sf_bd _) rfl rfl (fun w184 Iw184 sw184 kw184 uw184 => ?_)
                      have c185 := sf_mf kw184 (p := 71) (j := 0) rfl
                      have c186 := sf_mf kw184 (p := 71) (j := 5) rfl
                      have c187 := sf_ma kw184 (p := 75) rfl
                      have c188 := sf_ma kw184 (p := 76) rfl
                      have c189 := sf_ma kw184 (p := 77) rfl
                      clear kw184
                      have u78 := uw184
                      rw [show v183.toInt = (sf_f w0 71 5).toInt by omega] at u78
                      rw [c182, c175, c168, c159] at u78
                      refine sf_aload rfl ?_
                      refine sf_dup rfl ?_
                      refine sf_geti Iw184 rfl rfl (fun v190 lv190 uv190 ev190 => ?_)
                      rw [c186, c179, c172, c165, c155] at ev190
                      refine sf_iconst sf_c1 (fun z191 ez191 => ?_)
                      refine sf_iadd (by omega) (fun v192 ev192 => ?_)
                      refine sf_puti Iw184 sw184 rfl rfl (by omega) rfl rfl rfl (fun w193 Iw193 sw193 kw193 uw193 => ?_)
                      have c194 := sf_mf kw193 (p := 71) (j := 0) rfl
                      have c195 := sf_ma kw193 (p := 75) rfl
                      have c196 := sf_ma kw193 (p := 76) rfl
                      have c197 := sf_ma kw193 (p := 77) rfl
                      have c198 := sf_ma kw193 (p := 78) rfl
                      clear kw193
                      refine sf_aload rfl ?_
                      refine sf_geti Iw193 rfl rfl (fun v199 lv199 uv199 ev199 => ?_)
                      rw [uw193] at ev199
                      refine sf_iconst sf_c1 (fun z200 ez200 => ?_)
                      refine sf_isub (by omega) (fun v201 ev201 => ?_)
                      refine sf_ireturn rfl rfl ?_
                      exact hR _ _ Iw193 sw193 (by omega) (by omega) (by rw [c194, c185, c178, c171, c164, uw154]; rw [uw193]; first | (refine Or.inl ⟨by omega, ?_⟩; omega) | (refine Or.inr (Or.inl ⟨by omega, ?_⟩); omega) | (refine Or.inr (Or.inr ⟨by omega, ?_⟩); omega)) (by rw [c194, c185, c178, c171, c164, uw154]; rw [c195, c187, c180, c173]; first | exact Or.inl ⟨by omega, rfl⟩ | exact Or.inr ⟨by omega, u75⟩) (by rw [c194, c185, c178, c171, c164, uw154]; rw [c196, c188, c181]; first | exact Or.inl ⟨by omega, rfl⟩ | exact Or.inr ⟨by omega, u76⟩) (by rw [c194, c185, c178, c171, c164, uw154]; rw [c197, c189]; first | exact Or.inl ⟨by omega, rfl⟩ | exact Or.inr ⟨by omega, u77⟩) (by rw [c194, c185, c178, c171, c164, uw154]; rw [c198]; first | exact Or.inl ⟨by omega, rfl⟩ | exact Or.inr ⟨by omega, u78⟩)
          · refine sf_iconst sf_c7 (fun z202 ez202 => ?_)
            refine sf_call3 rfl rfl rfl ?_
            refine sf_sp (L := [(0, .inl (.int a_fact)), (1, .inl (.int z68)), (2, .inl (.int z202))]) rfl rfl ?_
            refine sf_iload rfl ?_
            refine sf_iload rfl ?_
            refine sf_f2_lt (fun h203 => ?_) (fun h203 => ?_)
            · refine sf_iconst sf_c0 (fun z204 ez204 => ?_)
              refine sf_zreturn (by omega) rfl rfl ?_
              refine sf_f1_eq (fun h205 => ?_) (fun h205 => absurd h205 (by omega))
              refine sf_iconst sf_c0 (fun z206 ez206 => ?_)
              refine sf_istore (L' := [(0, .inl (.ref 71)), (1, .inl (.int a_heading)), (2, .inl (.int a_kind)), (3, .inl (.int a_fact)), (4, .inl (.int a_amount))]) rfl ?_
              refine sf_aload rfl ?_
              refine sf_iload rfl ?_
              refine sf_f1_eq (fun h207 => ?_) (fun h207 => absurd h207 (by omega))
              refine sf_iconst sf_c1 (fun z208 ez208 => ?_)
              refine sf_puti hI0 hs0 rfl rfl (sf_bd _) rfl rfl rfl (fun w209 Iw209 sw209 kw209 uw209 => ?_)
              have c210 := sf_mf kw209 (p := 71) (j := 5) rfl
              have c211 := sf_ma kw209 (p := 75) rfl
              have c212 := sf_ma kw209 (p := 76) rfl
              have c213 := sf_ma kw209 (p := 77) rfl
              have c214 := sf_ma kw209 (p := 78) rfl
              clear kw209
              refine sf_aload rfl ?_
              refine sf_geti Iw209 rfl rfl (fun v215 lv215 uv215 ev215 => ?_)
              rw [uw209] at ev215
              refine sf_f1_le (fun h216 => absurd h216 (by omega)) (fun h216 => ?_)
              refine sf_iconst sf_c0 (fun z217 ez217 => ?_)
              refine sf_ireturn rfl rfl ?_
              exact hR _ _ Iw209 sw209 (by omega) (by omega) (by rw [uw209]; rw [c210]; first | (refine Or.inl ⟨by omega, ?_⟩; omega) | (refine Or.inr (Or.inl ⟨by omega, ?_⟩); omega) | (refine Or.inr (Or.inr ⟨by omega, ?_⟩); omega)) (by rw [uw209]; rw [c211]; first | exact Or.inl ⟨by omega, rfl⟩ | exact Or.inr ⟨by omega, u75⟩) (by rw [uw209]; rw [c212]; first | exact Or.inl ⟨by omega, rfl⟩ | exact Or.inr ⟨by omega, u76⟩) (by rw [uw209]; rw [c213]; first | exact Or.inl ⟨by omega, rfl⟩ | exact Or.inr ⟨by omega, u77⟩) (by rw [uw209]; rw [c214]; first | exact Or.inl ⟨by omega, rfl⟩ | exact Or.inr ⟨by omega, u78⟩)
            · refine sf_iload rfl ?_
              refine sf_iload rfl ?_
              refine sf_f2_gt (fun h218 => ?_) (fun h218 => ?_)
              · refine sf_iconst sf_c0 (fun z219 ez219 => ?_)
                refine sf_zreturn (by omega) rfl rfl ?_
                refine sf_f1_eq (fun h220 => ?_) (fun h220 => absurd h220 (by omega))
                refine sf_iconst sf_c0 (fun z221 ez221 => ?_)
                refine sf_istore (L' := [(0, .inl (.ref 71)), (1, .inl (.int a_heading)), (2, .inl (.int a_kind)), (3, .inl (.int a_fact)), (4, .inl (.int a_amount))]) rfl ?_
                refine sf_aload rfl ?_
                refine sf_iload rfl ?_
                refine sf_f1_eq (fun h222 => ?_) (fun h222 => absurd h222 (by omega))
                refine sf_iconst sf_c1 (fun z223 ez223 => ?_)
                refine sf_puti hI0 hs0 rfl rfl (sf_bd _) rfl rfl rfl (fun w224 Iw224 sw224 kw224 uw224 => ?_)
                have c225 := sf_mf kw224 (p := 71) (j := 5) rfl
                have c226 := sf_ma kw224 (p := 75) rfl
                have c227 := sf_ma kw224 (p := 76) rfl
                have c228 := sf_ma kw224 (p := 77) rfl
                have c229 := sf_ma kw224 (p := 78) rfl
                clear kw224
                refine sf_aload rfl ?_
                refine sf_geti Iw224 rfl rfl (fun v230 lv230 uv230 ev230 => ?_)
                rw [uw224] at ev230
                refine sf_f1_le (fun h231 => absurd h231 (by omega)) (fun h231 => ?_)
                refine sf_iconst sf_c0 (fun z232 ez232 => ?_)
                refine sf_ireturn rfl rfl ?_
                exact hR _ _ Iw224 sw224 (by omega) (by omega) (by rw [uw224]; rw [c225]; first | (refine Or.inl ⟨by omega, ?_⟩; omega) | (refine Or.inr (Or.inl ⟨by omega, ?_⟩); omega) | (refine Or.inr (Or.inr ⟨by omega, ?_⟩); omega)) (by rw [uw224]; rw [c226]; first | exact Or.inl ⟨by omega, rfl⟩ | exact Or.inr ⟨by omega, u75⟩) (by rw [uw224]; rw [c227]; first | exact Or.inl ⟨by omega, rfl⟩ | exact Or.inr ⟨by omega, u76⟩) (by rw [uw224]; rw [c228]; first | exact Or.inl ⟨by omega, rfl⟩ | exact Or.inr ⟨by omega, u77⟩) (by rw [uw224]; rw [c229]; first | exact Or.inl ⟨by omega, rfl⟩ | exact Or.inr ⟨by omega, u78⟩)
              · refine sf_iconst sf_c1 (fun z233 ez233 => ?_)
                refine sf_zreturn (by omega) rfl rfl ?_
                refine sf_f1_eq (fun h234 => absurd h234 (by omega)) (fun h234 => ?_)
                refine sf_iload rfl ?_
                refine sf_iconst sf_c1 (fun z235 ez235 => ?_)
                refine sf_iconst sf_c1000 (fun z236 ez236 => ?_)
                refine sf_call3 rfl rfl rfl ?_
                refine sf_sp (L := [(0, .inl (.int a_amount)), (1, .inl (.int z235)), (2, .inl (.int z236))]) rfl rfl ?_
                refine sf_iload rfl ?_
                refine sf_iload rfl ?_
                refine sf_f2_lt (fun h237 => ?_) (fun h237 => ?_)
                · refine sf_iconst sf_c0 (fun z238 ez238 => ?_)
                  refine sf_zreturn (by omega) rfl rfl ?_
                  refine sf_f1_eq (fun h239 => ?_) (fun h239 => absurd h239 (by omega))
                  refine sf_iconst sf_c0 (fun z240 ez240 => ?_)
                  refine sf_istore (L' := [(0, .inl (.ref 71)), (1, .inl (.int a_heading)), (2, .inl (.int a_kind)), (3, .inl (.int a_fact)), (4, .inl (.int a_amount))]) rfl ?_
                  refine sf_aload rfl ?_
                  refine sf_iload rfl ?_
                  refine sf_f1_eq (fun h241 => ?_) (fun h241 => absurd h241 (by omega))
                  refine sf_iconst sf_c1 (fun z242 ez242 => ?_)
                  refine sf_puti hI0 hs0 rfl rfl (sf_bd _) rfl rfl rfl (fun w243 Iw243 sw243 kw243 uw243 => ?_)
                  have c244 := sf_mf kw243 (p := 71) (j := 5) rfl
                  have c245 := sf_ma kw243 (p := 75) rfl
                  have c246 := sf_ma kw243 (p := 76) rfl
                  have c247 := sf_ma kw243 (p := 77) rfl
                  have c248 := sf_ma kw243 (p := 78) rfl
                  clear kw243
                  refine sf_aload rfl ?_
                  refine sf_geti Iw243 rfl rfl (fun v249 lv249 uv249 ev249 => ?_)
                  rw [uw243] at ev249
                  refine sf_f1_le (fun h250 => absurd h250 (by omega)) (fun h250 => ?_)
                  refine sf_iconst sf_c0 (fun z251 ez251 => ?_)
                  refine sf_ireturn rfl rfl ?_
                  exact hR _ _ Iw243 sw243 (by omega) (by omega) (by rw [uw243]; rw [c244]; first | (refine Or.inl ⟨by omega, ?_⟩; omega) | (refine Or.inr (Or.inl ⟨by omega, ?_⟩); omega) | (refine Or.inr (Or.inr ⟨by omega, ?_⟩); omega)) (by rw [uw243]; rw [c245]; first | exact Or.inl ⟨by omega, rfl⟩ | exact Or.inr ⟨by omega, u75⟩) (by rw [uw243]; rw [c246]; first | exact Or.inl ⟨by omega, rfl⟩ | exact Or.inr ⟨by omega, u76⟩) (by rw [uw243]; rw [c247]; first | exact Or.inl ⟨by omega, rfl⟩ | exact Or.inr ⟨by omega, u77⟩) (by rw [uw243]; rw [c248]; first | exact Or.inl ⟨by omega, rfl⟩ | exact Or.inr ⟨by omega, u78⟩)
                · refine sf_iload rfl ?_
                  refine sf_iload rfl ?_
                  refine sf_f2_gt (fun h252 => ?_) (fun h252 => ?_)
                  · refine sf_iconst sf_c0 (fun z253 ez253 => ?_)
                    refine sf_zreturn (by omega) rfl rfl ?_
                    refine sf_f1_eq (fun h254 => ?_) (fun h254 => absurd h254 (by omega))
                    refine sf_iconst sf_c0 (fun z255 ez255 => ?_)
                    refine sf_istore (L' := [(0, .inl (.ref 71)), (1, .inl (.int a_heading)), (2, .inl (.int a_kind)), (3, .inl (.int a_fact)), (4, .inl (.int a_amount))]) rfl ?_
                    refine sf_aload rfl ?_
                    refine sf_iload rfl ?_
                    refine sf_f1_eq (fun h256 => ?_) (fun h256 => absurd h256 (by omega))
                    refine sf_iconst sf_c1 (fun z257 ez257 => ?_)
                    refine sf_puti hI0 hs0 rfl rfl (sf_bd _) rfl rfl rfl (fun w258 Iw258 sw258 kw258 uw258 => ?_)
                    have c259 := sf_mf kw258 (p := 71) (j := 5) rfl
                    have c260 := sf_ma kw258 (p := 75) rfl
                    have c261 := sf_ma kw258 (p := 76) rfl
                    have c262 := sf_ma kw258 (p := 77) rfl
                    have c263 := sf_ma kw258 (p := 78) rfl
                    clear kw258
                    refine sf_aload rfl ?_
                    refine sf_geti Iw258 rfl rfl (fun v264 lv264 uv264 ev264 => ?_)
                    rw [uw258] at ev264
                    refine sf_f1_le (fun h265 => absurd h265 (by omega)) (fun h265 => ?_)
                    refine sf_iconst sf_c0 (fun z266 ez266 => ?_)
                    refine sf_ireturn rfl rfl ?_
                    exact hR _ _ Iw258 sw258 (by omega) (by omega) (by rw [uw258]; rw [c259]; first | (refine Or.inl ⟨by omega, ?_⟩; omega) | (refine Or.inr (Or.inl ⟨by omega, ?_⟩); omega) | (refine Or.inr (Or.inr ⟨by omega, ?_⟩); omega)) (by rw [uw258]; rw [c260]; first | exact Or.inl ⟨by omega, rfl⟩ | exact Or.inr ⟨by omega, u75⟩) (by rw [uw258]; rw [c261]; first | exact Or.inl ⟨by omega, rfl⟩ | exact Or.inr ⟨by omega, u76⟩) (by rw [uw258]; rw [c262]; first | exact Or.inl ⟨by omega, rfl⟩ | exact Or.inr ⟨by omega, u77⟩) (by rw [uw258]; rw [c263]; first | exact Or.inl ⟨by omega, rfl⟩ | exact Or.inr ⟨by omega, u78⟩)
                  · refine sf_iconst sf_c1 (fun z267 ez267 => ?_)
                    refine sf_zreturn (by omega) rfl rfl ?_
                    refine sf_f1_eq (fun h268 => absurd h268 (by omega)) (fun h268 => ?_)
                    refine sf_iconst sf_c1 (fun z269 ez269 => ?_)
                    refine sf_istore (L' := [(0, .inl (.ref 71)), (1, .inl (.int a_heading)), (2, .inl (.int a_kind)), (3, .inl (.int a_fact)), (4, .inl (.int a_amount))]) rfl ?_
                    refine sf_aload rfl ?_
                    refine sf_iload rfl ?_
                    refine sf_f1_eq (fun h270 => absurd h270 (by omega)) (fun h270 => ?_)
                    refine sf_aload rfl ?_
                    refine sf_geti hI0 rfl rfl (fun v271 lv271 uv271 ev271 => ?_)
                    refine sf_iconst sf_c40 (fun z272 ez272 => ?_)
                    refine sf_f2_eq (fun h273 => ?_) (fun h273 => ?_)
                    · refine sf_iconst sf_c2 (fun z274 ez274 => ?_)
                      refine sf_puti hI0 hs0 rfl rfl (sf_bd _) rfl rfl rfl (fun w275 Iw275 sw275 kw275 uw275 => ?_)
                      have c276 := sf_mf kw275 (p := 71) (j := 5) rfl
                      have c277 := sf_ma kw275 (p := 75) rfl
                      have c278 := sf_ma kw275 (p := 76) rfl
                      have c279 := sf_ma kw275 (p := 77) rfl
                      have c280 := sf_ma kw275 (p := 78) rfl
                      clear kw275
                      refine sf_aload rfl ?_
                      refine sf_geti Iw275 rfl rfl (fun v281 lv281 uv281 ev281 => ?_)
                      rw [uw275] at ev281
                      refine sf_f1_le (fun h282 => absurd h282 (by omega)) (fun h282 => ?_)
                      refine sf_iconst sf_c0 (fun z283 ez283 => ?_)
                      refine sf_ireturn rfl rfl ?_
                      exact hR _ _ Iw275 sw275 (by omega) (by omega) (by rw [uw275]; rw [c276]; first | (refine Or.inl ⟨by omega, ?_⟩; omega) | (refine Or.inr (Or.inl ⟨by omega, ?_⟩); omega) | (refine Or.inr (Or.inr ⟨by omega, ?_⟩); omega)) (by rw [uw275]; rw [c277]; first | exact Or.inl ⟨by omega, rfl⟩ | exact Or.inr ⟨by omega, u75⟩) (by rw [uw275]; rw [c278]; first | exact Or.inl ⟨by omega, rfl⟩ | exact Or.inr ⟨by omega, u76⟩) (by rw [uw275]; rw [c279]; first | exact Or.inl ⟨by omega, rfl⟩ | exact Or.inr ⟨by omega, u77⟩) (by rw [uw275]; rw [c280]; first | exact Or.inl ⟨by omega, rfl⟩ | exact Or.inr ⟨by omega, u78⟩)
                    · refine sf_iconst sf_c0 (fun z284 ez284 => ?_)
                      refine sf_puti hI0 hs0 rfl rfl (sf_bd _) rfl rfl rfl (fun w285 Iw285 sw285 kw285 uw285 => ?_)
                      have c286 := sf_mf kw285 (p := 71) (j := 5) rfl
                      have c287 := sf_ma kw285 (p := 75) rfl
                      have c288 := sf_ma kw285 (p := 76) rfl
                      have c289 := sf_ma kw285 (p := 77) rfl
                      have c290 := sf_ma kw285 (p := 78) rfl
                      clear kw285
                      refine sf_aload rfl ?_
                      refine sf_geti Iw285 rfl rfl (fun v291 lv291 uv291 ev291 => ?_)
                      rw [uw285] at ev291
                      refine sf_f1_le (fun h292 => ?_) (fun h292 => absurd h292 (by omega))
                      refine sf_aload rfl ?_
                      refine sf_getr Iw285 rfl rfl ?_
                      refine sf_aload rfl ?_
                      refine sf_geti Iw285 rfl rfl (fun v293 lv293 uv293 ev293 => ?_)
                      rw [c286] at ev293
                      refine sf_iload rfl ?_
                      refine sf_iast Iw285 sw285 rfl (by omega) (sf_bd _) rfl rfl (fun w294 Iw294 sw294 kw294 uw294 => ?_)
                      have c295 := sf_mf kw294 (p := 71) (j := 0) rfl
                      have c296 := sf_mf kw294 (p := 71) (j := 5) rfl
                      have c297 := sf_ma kw294 (p := 76) rfl
                      have c298 := sf_ma kw294 (p := 77) rfl
                      have c299 := sf_ma kw294 (p := 78) rfl
                      clear kw294
                      have u75 := uw294
                      rw [show v293.toInt = (sf_f w0 71 5).toInt by omega] at u75
                      rw [c287] at u75
                      refine sf_aload rfl ?_
                      refine sf_getr Iw294 rfl rfl ?_
                      refine sf_aload rfl ?_
                      refine sf_geti Iw294 rfl rfl (fun v300 lv300 uv300 ev300 => ?_)
                      rw [c296, c286] at ev300
                      refine sf_iload rfl ?_
                      refine sf_iast Iw294 sw294 rfl (by omega) (sf_bd _) rfl rfl (fun w301 Iw301 sw301 kw301 uw301 => ?_)
                      have c302 := sf_mf kw301 (p := 71) (j := 0) rfl
                      have c303 := sf_mf kw301 (p := 71) (j := 5) rfl
                      have c304 := sf_ma kw301 (p := 75) rfl
                      have c305 := sf_ma kw301 (p := 77) rfl
                      have c306 := sf_ma kw301 (p := 78) rfl
                      clear kw301
                      have u76 := uw301
                      rw [show v300.toInt = (sf_f w0 71 5).toInt by omega] at u76
                      rw [c297, c288] at u76
                      refine sf_aload rfl ?_
                      refine sf_getr Iw301 rfl rfl ?_
                      refine sf_aload rfl ?_
                      refine sf_geti Iw301 rfl rfl (fun v307 lv307 uv307 ev307 => ?_)
                      rw [c303, c296, c286] at ev307
                      refine sf_iload rfl ?_
                      refine sf_iast Iw301 sw301 rfl (by omega) (by omega) rfl rfl (fun w308 Iw308 sw308 kw308 uw308 => ?_)
                      have c309 := sf_mf kw308 (p := 71) (j := 0) rfl
                      have c310 := sf_mf kw308 (p := 71) (j := 5) rfl
                      have c311 := sf_ma kw308 (p := 75) rfl
                      have c312 := sf_ma kw308 (p := 76) rfl
                      have c313 := sf_ma kw308 (p := 78) rfl
                      clear kw308
                      have u77 := uw308
                      rw [show v307.toInt = (sf_f w0 71 5).toInt by omega] at u77
                      rw [c305, c298, c289] at u77
                      refine sf_aload rfl ?_
                      refine sf_getr Iw308 rfl rfl ?_
                      refine sf_aload rfl ?_
                      refine sf_geti Iw308 rfl rfl (fun v314 lv314 uv314 ev314 => ?_)
                      rw [c310, c303, c296, c286] at ev314
                      refine sf_iload rfl ?_
                      refine sf_iast Iw308 sw308 rfl (by omega) (sf_bd _) rfl rfl (fun w315 Iw315 sw315 kw315 uw315 => ?_)
                      have c316 := sf_mf kw315 (p := 71) (j := 0) rfl
                      have c317 := sf_mf kw315 (p := 71) (j := 5) rfl
                      have c318 := sf_ma kw315 (p := 75) rfl
                      have c319 := sf_ma kw315 (p := 76) rfl
                      have c320 := sf_ma kw315 (p := 77) rfl
                      clear kw315
                      have u78 := uw315
                      rw [show v314.toInt = (sf_f w0 71 5).toInt by omega] at u78
                      rw [c313, c306, c299, c290] at u78
                      refine sf_aload rfl ?_
                      refine sf_dup rfl ?_
                      refine sf_geti Iw315 rfl rfl (fun v321 lv321 uv321 ev321 => ?_)
                      rw [c317, c310, c303, c296, c286] at ev321
                      refine sf_iconst sf_c1 (fun z322 ez322 => ?_)
                      refine sf_iadd (by omega) (fun v323 ev323 => ?_)
                      refine sf_puti Iw315 sw315 rfl rfl (by omega) rfl rfl rfl (fun w324 Iw324 sw324 kw324 uw324 => ?_)
                      have c325 := sf_mf kw324 (p := 71) (j := 0) rfl
                      have c326 := sf_ma kw324 (p := 75) rfl
                      have c327 := sf_ma kw324 (p := 76) rfl
                      have c328 := sf_ma kw324 (p := 77) rfl
                      have c329 := sf_ma kw324 (p := 78) rfl
                      clear kw324
                      refine sf_aload rfl ?_
                      refine sf_geti Iw324 rfl rfl (fun v330 lv330 uv330 ev330 => ?_)
                      rw [uw324] at ev330
                      refine sf_iconst sf_c1 (fun z331 ez331 => ?_)
                      refine sf_isub (by omega) (fun v332 ev332 => ?_)
                      refine sf_ireturn rfl rfl ?_
                      exact hR _ _ Iw324 sw324 (by omega) (by omega) (by rw [c325, c316, c309, c302, c295, uw285]; rw [uw324]; first | (refine Or.inl ⟨by omega, ?_⟩; omega) | (refine Or.inr (Or.inl ⟨by omega, ?_⟩); omega) | (refine Or.inr (Or.inr ⟨by omega, ?_⟩); omega)) (by rw [c325, c316, c309, c302, c295, uw285]; rw [c326, c318, c311, c304]; first | exact Or.inl ⟨by omega, rfl⟩ | exact Or.inr ⟨by omega, u75⟩) (by rw [c325, c316, c309, c302, c295, uw285]; rw [c327, c319, c312]; first | exact Or.inl ⟨by omega, rfl⟩ | exact Or.inr ⟨by omega, u76⟩) (by rw [c325, c316, c309, c302, c295, uw285]; rw [c328, c320]; first | exact Or.inl ⟨by omega, rfl⟩ | exact Or.inr ⟨by omega, u77⟩) (by rw [c325, c316, c309, c302, c295, uw285]; rw [c329]; first | exact Or.inl ⟨by omega, rfl⟩ | exact Or.inr ⟨by omega, u78⟩)
def sm_M_fact : List Nat := [71, 93, 8100]
set_option maxRecDepth 100000 in
set_option maxHeartbeats 4000000 in
theorem sc_M_fact {w0 : wq_W} (hI0 : sf_I w0) {rt : Option wq_V → wq_W → Prop} {xt : Nat → wq_W → Prop} {a_good : Int32} {a_fact : Int32} {a_amount : Int32}  (hR : ∀ (r : Int32) (w : wq_W), sf_I w → sf_m sm_M_fact w0 w → 0 ≤ r.toInt → r.toInt ≤ 1000 → ((((sf_f w 71 0).toInt = 0 ∧ (0 ≤ a_good.toInt ∧ a_good.toInt ≤ 15 ∧ 0 ≤ a_fact.toInt ∧ a_fact.toInt ≤ 7 ∧ 0 ≤ a_amount.toInt ∧ a_amount.toInt ≤ 1000) ∧ r.toInt = (sf_a w0 93 (8 * a_good.toInt + a_fact.toInt).toNat).toInt) ∨ ((sf_f w 71 0).toInt = 1 ∧ ¬ (0 ≤ a_good.toInt ∧ a_good.toInt ≤ 15 ∧ 0 ≤ a_fact.toInt ∧ a_fact.toInt ≤ 7 ∧ 0 ≤ a_amount.toInt ∧ a_amount.toInt ≤ 1000)))) → ((((sf_f w 71 0).toInt ≠ 0 ∧ sf_a w 93 = sf_a w0 93) ∨ ((sf_f w 71 0).toInt = 0 ∧ sf_a w 93 = upd (sf_a w0 93) (8 * a_good.toInt + a_fact.toInt).toNat a_amount ∧ 0 ≤ a_good.toInt ∧ a_good.toInt ≤ 15 ∧ 0 ≤ a_fact.toInt ∧ a_fact.toInt ≤ 7 ∧ 0 ≤ a_amount.toInt ∧ a_amount.toInt ≤ 1000))) → rt (some (.inl (.int r))) w) : ks_M_fact [.inl (.ref 71), .inl (.int a_good), .inl (.int a_fact), .inl (.int a_amount)] w0 rt xt := by
  have hs0 : sf_m sm_M_fact w0 w0 := sf_m0
  refine sf_sp (L := [(0, .inl (.ref 71)), (1, .inl (.int a_good)), (2, .inl (.int a_fact)), (3, .inl (.int a_amount))]) rfl rfl ?_
  refine sf_aload rfl ?_
  refine sf_iload rfl ?_
  refine sf_iconst sf_c0 (fun z1 ez1 => ?_)
  refine sf_iconst sf_c15 (fun z2 ez2 => ?_)
  refine sf_call3 rfl rfl rfl ?_
  refine sf_sp (L := [(0, .inl (.int a_good)), (1, .inl (.int z1)), (2, .inl (.int z2))]) rfl rfl ?_
  refine sf_iload rfl ?_
  refine sf_iload rfl ?_
  refine sf_f2_lt (fun h3 => ?_) (fun h3 => ?_)
  · refine sf_iconst sf_c0 (fun z4 ez4 => ?_)
    refine sf_zreturn (by omega) rfl rfl ?_
    refine sf_f1_eq (fun h5 => ?_) (fun h5 => absurd h5 (by omega))
    refine sf_iconst sf_c1 (fun z6 ez6 => ?_)
    refine sf_puti hI0 hs0 rfl rfl (sf_bd _) rfl rfl rfl (fun w7 Iw7 sw7 kw7 uw7 => ?_)
    have c8 := sf_ma kw7 (p := 93) rfl
    clear kw7
    refine sf_aload rfl ?_
    refine sf_geti Iw7 rfl rfl (fun v9 lv9 uv9 ev9 => ?_)
    rw [uw7] at ev9
    refine sf_f1_le (fun h10 => absurd h10 (by omega)) (fun h10 => ?_)
    refine sf_iconst sf_c0 (fun z11 ez11 => ?_)
    refine sf_ireturn rfl rfl ?_
    exact hR _ _ Iw7 sw7 (by omega) (by omega) (by rw [uw7]; first | (refine Or.inl ⟨by omega, ?_⟩; omega) | (refine Or.inr ⟨by omega, ?_⟩; omega)) (by rw [uw7]; rw [c8]; first | exact Or.inl ⟨by omega, rfl⟩ | exact Or.inr ⟨by omega, gg, by omega⟩)
  · refine sf_iload rfl ?_
    refine sf_iload rfl ?_
    refine sf_f2_gt (fun h12 => ?_) (fun h12 => ?_)
    · refine sf_iconst sf_c0 (fun z13 ez13 => ?_)
      refine sf_zreturn (by omega) rfl rfl ?_
      refine sf_f1_eq (fun h14 => ?_) (fun h14 => absurd h14 (by omega))
      refine sf_iconst sf_c1 (fun z15 ez15 => ?_)
      refine sf_puti hI0 hs0 rfl rfl (sf_bd _) rfl rfl rfl (fun w16 Iw16 sw16 kw16 uw16 => ?_)
      have c17 := sf_ma kw16 (p := 93) rfl
      clear kw16
      refine sf_aload rfl ?_
      refine sf_geti Iw16 rfl rfl (fun v18 lv18 uv18 ev18 => ?_)
      rw [uw16] at ev18
      refine sf_f1_le (fun h19 => absurd h19 (by omega)) (fun h19 => ?_)
      refine sf_iconst sf_c0 (fun z20 ez20 => ?_)
      refine sf_ireturn rfl rfl ?_
      exact hR _ _ Iw16 sw16 (by omega) (by omega) (by rw [uw16]; first | (refine Or.inl ⟨by omega, ?_⟩; omega) | (refine Or.inr ⟨by omega, ?_⟩; omega)) (by rw [uw16]; rw [c17]; first | exact Or.inl ⟨by omega, rfl⟩ | exact Or.inr ⟨by omega, gg, by omega⟩)
    · refine sf_iconst sf_c1 (fun z21 ez21 => ?_)
      refine sf_zreturn (by omega) rfl rfl ?_
      refine sf_f1_eq (fun h22 => absurd h22 (by omega)) (fun h22 => ?_)
      refine sf_iload rfl ?_
      refine sf_iconst sf_c0 (fun z23 ez23 => ?_)
      refine sf_iconst sf_c7 (fun z24 ez24 => ?_)
      refine sf_call3 rfl rfl rfl ?_
      refine sf_sp (L := [(0, .inl (.int a_fact)), (1, .inl (.int z23)), (2, .inl (.int z24))]) rfl rfl ?_
      refine sf_iload rfl ?_
      refine sf_iload rfl ?_
      refine sf_f2_lt (fun h25 => ?_) (fun h25 => ?_)
      · refine sf_iconst sf_c0 (fun z26 ez26 => ?_)
        refine sf_zreturn (by omega) rfl rfl ?_
        refine sf_f1_eq (fun h27 => ?_) (fun h27 => absurd h27 (by omega))
        refine sf_iconst sf_c1 (fun z28 ez28 => ?_)
        refine sf_puti hI0 hs0 rfl rfl (sf_bd _) rfl rfl rfl (fun w29 Iw29 sw29 kw29 uw29 => ?_)
        have c30 := sf_ma kw29 (p := 93) rfl
        clear kw29
        refine sf_aload rfl ?_
        refine sf_geti Iw29 rfl rfl (fun v31 lv31 uv31 ev31 => ?_)
        rw [uw29] at ev31
        refine sf_f1_le (fun h32 => absurd h32 (by omega)) (fun h32 => ?_)
        refine sf_iconst sf_c0 (fun z33 ez33 => ?_)
        refine sf_ireturn rfl rfl ?_
        exact hR _ _ Iw29 sw29 (by omega) (by omega) (by rw [uw29]; first | (refine Or.inl ⟨by omega, ?_⟩; omega) | (refine Or.inr ⟨by omega, ?_⟩; omega)) (by rw [uw29]; rw [c30]; first | exact Or.inl ⟨by omega, rfl⟩ | exact Or.inr ⟨by omega, gg, by omega⟩)
      · refine sf_iload rfl ?_
        refine sf_iload rfl ?_
        refine sf_f2_gt (fun h34 => ?_) (fun h34 => ?_)
        · refine sf_iconst sf_c0 (fun z35 ez35 => ?_)
          refine sf_zreturn (by omega) rfl rfl ?_
          refine sf_f1_eq (fun h36 => ?_) (fun h36 => absurd h36 (by omega))
          refine sf_iconst sf_c1 (fun z37 ez37 => ?_)
          refine sf_puti hI0 hs0 rfl rfl (sf_bd _) rfl rfl rfl (fun w38 Iw38 sw38 kw38 uw38 => ?_)
          have c39 := sf_ma kw38 (p := 93) rfl
          clear kw38
          refine sf_aload rfl ?_
          refine sf_geti Iw38 rfl rfl (fun v40 lv40 uv40 ev40 => ?_)
          rw [uw38] at ev40
          refine sf_f1_le (fun h41 => absurd h41 (by omega)) (fun h41 => ?_)
          refine sf_iconst sf_c0 (fun z42 ez42 => ?_)
          refine sf_ireturn rfl rfl ?_
          exact hR _ _ Iw38 sw38 (by omega) (by omega) (by rw [uw38]; first | (refine Or.inl ⟨by omega, ?_⟩; omega) | (refine Or.inr ⟨by omega, ?_⟩; omega)) (by rw [uw38]; rw [c39]; first | exact Or.inl ⟨by omega, rfl⟩ | exact Or.inr ⟨by omega, gg, by omega⟩)
        · refine sf_iconst sf_c1 (fun z43 ez43 => ?_)
          refine sf_zreturn (by omega) rfl rfl ?_
          refine sf_f1_eq (fun h44 => absurd h44 (by omega)) (fun h44 => ?_)
          refine sf_iload rfl ?_
          refine sf_iconst sf_c0 (fun z45 ez45 => ?_)
          refine sf_iconst sf_c1000 (fun z46 ez46 => ?_)
          refine sf_call3 rfl rfl rfl ?_
          refine sf_sp (L := [(0, .inl (.int a_amount)), (1, .inl (.int z45)), (2, .inl (.int z46))]) rfl rfl ?_
          refine sf_iload rfl ?_
          refine sf_iload rfl ?_
          refine sf_f2_lt (fun h47 => ?_) (fun h47 => ?_)
          · refine sf_iconst sf_c0 (fun z48 ez48 => ?_)
            refine sf_zreturn (by omega) rfl rfl ?_
            refine sf_f1_eq (fun h49 => ?_) (fun h49 => absurd h49 (by omega))
            refine sf_iconst sf_c1 (fun z50 ez50 => ?_)
            refine sf_puti hI0 hs0 rfl rfl (sf_bd _) rfl rfl rfl (fun w51 Iw51 sw51 kw51 uw51 => ?_)
            have c52 := sf_ma kw51 (p := 93) rfl
            clear kw51
            refine sf_aload rfl ?_
            refine sf_geti Iw51 rfl rfl (fun v53 lv53 uv53 ev53 => ?_)
            rw [uw51] at ev53
            refine sf_f1_le (fun h54 => absurd h54 (by omega)) (fun h54 => ?_)
            refine sf_iconst sf_c0 (fun z55 ez55 => ?_)
            refine sf_ireturn rfl rfl ?_
            exact hR _ _ Iw51 sw51 (by omega) (by omega) (by rw [uw51]; first | (refine Or.inl ⟨by omega, ?_⟩; omega) | (refine Or.inr ⟨by omega, ?_⟩; omega)) (by rw [uw51]; rw [c52]; first | exact Or.inl ⟨by omega, rfl⟩ | exact Or.inr ⟨by omega, gg, by omega⟩)
          · refine sf_iload rfl ?_
            refine sf_iload rfl ?_
            refine sf_f2_gt (fun h56 => ?_) (fun h56 => ?_)
            · refine sf_iconst sf_c0 (fun z57 ez57 => ?_)
              refine sf_zreturn (by omega) rfl rfl ?_
              refine sf_f1_eq (fun h58 => ?_) (fun h58 => absurd h58 (by omega))
              refine sf_iconst sf_c1 (fun z59 ez59 => ?_)
              refine sf_puti hI0 hs0 rfl rfl (sf_bd _) rfl rfl rfl (fun w60 Iw60 sw60 kw60 uw60 => ?_)
              have c61 := sf_ma kw60 (p := 93) rfl
              clear kw60
              refine sf_aload rfl ?_
              refine sf_geti Iw60 rfl rfl (fun v62 lv62 uv62 ev62 => ?_)
              rw [uw60] at ev62
              refine sf_f1_le (fun h63 => absurd h63 (by omega)) (fun h63 => ?_)
              refine sf_iconst sf_c0 (fun z64 ez64 => ?_)
              refine sf_ireturn rfl rfl ?_
              exact hR _ _ Iw60 sw60 (by omega) (by omega) (by rw [uw60]; first | (refine Or.inl ⟨by omega, ?_⟩; omega) | (refine Or.inr ⟨by omega, ?_⟩; omega)) (by rw [uw60]; rw [c61]; first | exact Or.inl ⟨by omega, rfl⟩ | exact Or.inr ⟨by omega, gg, by omega⟩)
            · refine sf_iconst sf_c1 (fun z65 ez65 => ?_)
              refine sf_zreturn (by omega) rfl rfl ?_
              refine sf_f1_eq (fun h66 => absurd h66 (by omega)) (fun h66 => ?_)
              refine sf_iconst sf_c0 (fun z67 ez67 => ?_)
              refine sf_puti hI0 hs0 rfl rfl (sf_bd _) rfl rfl rfl (fun w68 Iw68 sw68 kw68 uw68 => ?_)
              have c69 := sf_ma kw68 (p := 93) rfl
              clear kw68
              refine sf_aload rfl ?_
              refine sf_geti Iw68 rfl rfl (fun v70 lv70 uv70 ev70 => ?_)
              rw [uw68] at ev70
              refine sf_f1_le (fun h71 => ?_) (fun h71 => absurd h71 (by omega))
              refine sf_aload rfl ?_
              refine sf_getr Iw68 rfl rfl ?_
              refine sf_iconst sf_c8 (fun z72 ez72 => ?_)
              refine sf_iload rfl ?_
              refine sf_imull (n := 8) (by omega) (by omega) (fun v73 ev73 => ?_)
              refine sf_iload rfl ?_
              refine sf_iadd (by omega) (fun v74 ev74 => ?_)
              refine sf_iald Iw68 rfl (by omega) (fun v75 lv75 uv75 ev75 => ?_)
              rw [c69] at ev75
              have gj : v74.toInt = 8 * a_good.toInt + a_fact.toInt := by omega
              rw [gj] at ev75
              refine sf_istore (L' := [(0, .inl (.ref 71)), (1, .inl (.int a_good)), (2, .inl (.int a_fact)), (3, .inl (.int a_amount))]) rfl ?_
              refine sf_aload rfl ?_
              refine sf_getr Iw68 rfl rfl ?_
              refine sf_iconst sf_c8 (fun z76 ez76 => ?_)
              refine sf_iload rfl ?_
              refine sf_imull (n := 8) (by omega) (by omega) (fun v77 ev77 => ?_)
              refine sf_iload rfl ?_
              refine sf_iadd (by omega) (fun v78 ev78 => ?_)
              refine sf_iload rfl ?_
              have g93 := c69
              refine sf_iast Iw68 sw68 rfl (by omega) (by omega) rfl rfl (fun w79 Iw79 sw79 kw79 uw79 => ?_)
              have c80 := sf_mf kw79 (p := 71) (j := 0) rfl
              clear kw79
              have gg := uw79
              have gi : v78.toInt = 8 * a_good.toInt + a_fact.toInt := by omega
              rw [gi, g93] at gg
              refine sf_iload rfl ?_
              refine sf_ireturn rfl rfl ?_
              exact hR _ _ Iw79 sw79 (by omega) (by omega) (by rw [c80, uw68]; first | (refine Or.inl ⟨by omega, ?_⟩; omega) | (refine Or.inr ⟨by omega, ?_⟩; omega)) (by rw [c80, uw68]; first | exact Or.inl ⟨by omega, rfl⟩ | exact Or.inr ⟨by omega, gg, by omega⟩)
