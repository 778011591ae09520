def kr_W (e0 e1 e2 e3 e4 e5 e6 e7 e8 e9 e10 e11 e12 e13 e14 e15 e16 e17 e18 e19 e20 e21 e22 e23 e24 e25 e26 e27 e28 e29 e30 e31 e32 e33 e34 e35 e36 e37 e38 e39 e40 e41 e42 e43 e44 e45 e46 e47 e48 e49 e50 e51 e52 e53 e54 e55 e56 e57 e58 e59 e60 e61 e62 e63 e64 e65 e66 e67 e68 e69 e70 e130 : wq_E) (v0 : wq_V) (f : Nat → Int32) : wq_W := [e0, e1, e2, e3, e4, e5, e6, e7, e8, e9, e10, e11, e12, e13, e14, e15, e16, e17, e18, e19, e20, e21, e22, e23, e24, e25, e26, e27, e28, e29, e30, e31, e32, e33, e34, e35, e36, e37, e38, e39, e40, e41, e42, e43, e44, e45, e46, e47, e48, e49, e50, e51, e52, e53, e54, e55, e56, e57, e58, e59, e60, e61, e62, e63, e64, e65, e66, e67, e68, e69, e70, .inr (.inl (9, [v0, .inl (.int 0), .inl (.ref 72), .inl (.ref 73), .inl (.ref 74), .inl (.int 0), .inl (.ref 75), .inl (.ref 76), .inl (.ref 77), .inl (.ref 78), .inl (.int 0), .inl (.ref 79), .inl (.ref 80), .inl (.ref 81), .inl (.ref 82), .inl (.ref 83), .inl (.ref 84), .inl (.ref 85), .inl (.int 0), .inl (.ref 86), .inl (.ref 87), .inl (.ref 88), .inl (.ref 89), .inl (.ref 90), .inl (.ref 91), .inl (.ref 92), .inl (.ref 93), .inl (.ref 94), .inl (.ref 95), .inl (.ref 96), .inl (.ref 97), .inl (.ref 98), .inl (.ref 99), .inl (.ref 100), .inl (.ref 101), .inl (.int 0), .inl (.ref 102), .inl (.ref 103), .inl (.ref 104), .inl (.ref 105), .inl (.ref 106), .inl (.int (-1)), .inl (.ref 107), .inl (.ref 108), .inl (.ref 109), .inl (.ref 110), .inl (.ref 111), .inl (.ref 112), .inl (.ref 113), .inl (.ref 114), .inl (.ref 115), .inl (.ref 116), .inl (.ref 117), .inl (.ref 118), .inl (.ref 119), .inl (.ref 120), .inl (.int 0), .inl (.ref 121), .inl (.ref 122), .inl (.ref 123), .inl (.ref 124), .inl (.ref 125), .inl (.ref 126), .inl (.ref 127), .inl (.ref 128), .inl (.ref 129), .inl (.long 0), .inl (.long 0)])), .inl (0, (24, .inl fun _ => 0)), .inl (0, (24, .inl fun _ => 0)), .inl (0, (24, .inl fun _ => 0)), .inl (0, (40, .inl fun _ => 0)), .inl (0, (40, .inl fun _ => 0)), .inl (0, (40, .inl fun _ => 0)), .inl (0, (40, .inl fun _ => 0)), .inl (0, (40, .inl fun _ => 0)), .inl (0, (40, .inl fun _ => 0)), .inl (0, (40, .inl fun _ => 0)), .inl (0, (40, .inl fun _ => 0)), .inl (0, (40, .inl fun _ => 0)), .inl (0, (40, .inl fun _ => 0)), .inl (0, (40, .inl fun _ => 0)), .inl (0, (8, .inl fun _ => 0)), .inl (0, (8, .inl fun _ => 0)), .inl (0, (8, .inl fun _ => 0)), .inl (0, (8, .inl fun _ => 0)), .inl (0, (8, .inl fun _ => 0)), .inl (0, (8, .inl fun _ => 0)), .inl (0, (8, .inl fun _ => 0)), .inl (0, (128, .inl fun _ => 0)), .inl (0, (16, .inl fun _ => 0)), .inl (0, (80, .inl fun _ => 0)), .inl (0, (80, .inl fun _ => 0)), .inl (0, (80, .inl fun _ => 0)), .inl (0, (4, .inl fun _ => 0)), .inl (0, (16, .inl fun _ => 0)), .inl (2, (16, .inl f)), .inl (2, (16, .inl fun _ => 0)), .inl (0, (12, .inl fun _ => 0)), .inl (0, (12, .inl fun _ => 0)), .inl (0, (12, .inl fun _ => 0)), .inl (0, (24, .inl fun _ => 0)), .inl (2, (12, .inl fun _ => 0)), .inl (0, (48, .inl fun _ => 0)), .inl (0, (48, .inl fun _ => 0)), .inl (2, (48, .inl fun _ => 0)), .inl (0, (144, .inl fun _ => 0)), .inl (1, (48, .inr (.inl fun _ => 0))), .inl (1, (4, .inr (.inl fun _ => 0))), .inl (0, (48, .inl fun _ => 0)), .inl (0, (48, .inl fun _ => 0)), .inl (0, (48, .inl fun _ => 0)), .inl (1, (48, .inr (.inl fun _ => 0))), .inl (0, (4, .inl fun _ => 0)), .inl (0, (4, .inl fun _ => 0)), .inl (0, (4, .inl fun _ => 0)), .inl (1, (4, .inr (.inl fun _ => 0))), .inl (0, (40, .inl fun _ => 0)), .inl (0, (40, .inl fun _ => 0)), .inl (0, (40, .inl fun _ => 0)), .inl (1, (40, .inr (.inl fun _ => 0))), .inl (2, (40, .inl fun _ => 0)), .inl (2, (40, .inl fun _ => 0)), .inl (0, (16, .inl fun _ => 0)), .inl (0, (16, .inl fun _ => 0)), .inl (0, (16, .inl fun _ => 0)), e130]
theorem kr_u2 (rt : Option wq_V → wq_W → Prop) (xt : Nat → wq_W → Prop) (n : Nat) : ku_M_reaches rt xt (n + 1) 2 = kh_M_reaches_2 rt xt (ku_M_reaches rt xt n) := rfl
theorem kr_u32 (rt : Option wq_V → wq_W → Prop) (xt : Nat → wq_W → Prop) (n : Nat) : ku_M_reaches rt xt (n + 1) 32 = kh_M_reaches_32 rt xt (ku_M_reaches rt xt n) := rfl
theorem kr_u41 (rt : Option wq_V → wq_W → Prop) (xt : Nat → wq_W → Prop) (n : Nat) : ku_M_reaches rt xt (n + 1) 41 = kh_M_reaches_41 rt xt (ku_M_reaches rt xt n) := rfl
theorem kr_u51 (rt : Option wq_V → wq_W → Prop) (xt : Nat → wq_W → Prop) (n : Nat) : ku_M_reaches rt xt (n + 1) 51 = kh_M_reaches_51 rt xt (ku_M_reaches rt xt n) := rfl
set_option maxRecDepth 100000 in
set_option maxHeartbeats 1000000 in
theorem kr_51 (rt : Option wq_V → wq_W → Prop) (xt : Nat → wq_W → Prop) {e0 e1 e2 e3 e4 e5 e6 e7 e8 e9 e10 e11 e12 e13 e14 e15 e16 e17 e18 e19 e20 e21 e22 e23 e24 e25 e26 e27 e28 e29 e30 e31 e32 e33 e34 e35 e36 e37 e38 e39 e40 e41 e42 e43 e44 e45 e46 e47 e48 e49 e50 e51 e52 e53 e54 e55 e56 e57 e58 e59 e60 e61 e62 e63 e64 e65 e66 e67 e68 e69 e70 e130 : wq_E} {v0 : wq_V} {a b : Int32} {f : Nat → Int32} (m c : Nat) (h : ku_M_reaches rt xt m 32 [(3, .inl (.int (nI (c + 1)))), (4, .inl (.int (nI 16))), (5, .inl (.int (nI 0))), (0, .inl (.ref 71)), (1, .inl (.int a)), (2, .inl (.int b))] [] (kr_W e0 e1 e2 e3 e4 e5 e6 e7 e8 e9 e10 e11 e12 e13 e14 e15 e16 e17 e18 e19 e20 e21 e22 e23 e24 e25 e26 e27 e28 e29 e30 e31 e32 e33 e34 e35 e36 e37 e38 e39 e40 e41 e42 e43 e44 e45 e46 e47 e48 e49 e50 e51 e52 e53 e54 e55 e56 e57 e58 e59 e60 e61 e62 e63 e64 e65 e66 e67 e68 e69 e70 e130 v0 f) 0 0) : ∀ (d j : Nat), j + (d + 1) = 16 → ku_M_reaches rt xt (2 * (d + 1) + m) 51 [(5, .inl (.int (nI 0))), (4, .inl (.int (nI j))), (3, .inl (.int (nI c))), (0, .inl (.ref 71)), (1, .inl (.int a)), (2, .inl (.int b))] [] (kr_W e0 e1 e2 e3 e4 e5 e6 e7 e8 e9 e10 e11 e12 e13 e14 e15 e16 e17 e18 e19 e20 e21 e22 e23 e24 e25 e26 e27 e28 e29 e30 e31 e32 e33 e34 e35 e36 e37 e38 e39 e40 e41 e42 e43 e44 e45 e46 e47 e48 e49 e50 e51 e52 e53 e54 e55 e56 e57 e58 e59 e60 e61 e62 e63 e64 e65 e66 e67 e68 e69 e70 e130 v0 f) 0 0 := by
  intro d
  induction d with
  | zero =>
    intro j hj
    obtain rfl : j = 15 := by omega
    have h41 : ku_M_reaches rt xt (m + 1) 41 [(4, .inl (.int (nI 16))), (5, .inl (.int (nI 0))), (3, .inl (.int (nI c))), (0, .inl (.ref 71)), (1, .inl (.int a)), (2, .inl (.int b))] [] (kr_W e0 e1 e2 e3 e4 e5 e6 e7 e8 e9 e10 e11 e12 e13 e14 e15 e16 e17 e18 e19 e20 e21 e22 e23 e24 e25 e26 e27 e28 e29 e30 e31 e32 e33 e34 e35 e36 e37 e38 e39 e40 e41 e42 e43 e44 e45 e46 e47 e48 e49 e50 e51 e52 e53 e54 e55 e56 e57 e58 e59 e60 e61 e62 e63 e64 e65 e66 e67 e68 e69 e70 e130 v0 f) 0 0 := by
      rw [kr_u41]
      revert h
      generalize ku_M_reaches rt xt m = K
      intro h
      refine And.intro (fun _ => ?_) (fun h9 => absurd (by decide) h9)
      intro v hv
      rw [kl_add] at hv
      subst hv
      exact h
    rw [show 2 * (0 + 1) + m = (m + 1) + 1 by omega]
    rw [kr_u51]
    revert h41
    generalize ku_M_reaches rt xt (m + 1) = K
    intro h41
    refine Exists.intro 15 (And.intro rfl (And.intro (by decide) ?_))
    refine And.intro (fun _ => ?_) (fun h9 => absurd (by decide) h9)
    intro v hv
    rw [kl_add] at hv
    subst hv
    exact h41
  | succ d ih =>
    intro j hj
    have h51 := ih (j + 1) (by omega)
    have h41 : ku_M_reaches rt xt (2 * (d + 1) + m + 1) 41 [(4, .inl (.int (nI (j + 1)))), (5, .inl (.int (nI 0))), (3, .inl (.int (nI c))), (0, .inl (.ref 71)), (1, .inl (.int a)), (2, .inl (.int b))] [] (kr_W e0 e1 e2 e3 e4 e5 e6 e7 e8 e9 e10 e11 e12 e13 e14 e15 e16 e17 e18 e19 e20 e21 e22 e23 e24 e25 e26 e27 e28 e29 e30 e31 e32 e33 e34 e35 e36 e37 e38 e39 e40 e41 e42 e43 e44 e45 e46 e47 e48 e49 e50 e51 e52 e53 e54 e55 e56 e57 e58 e59 e60 e61 e62 e63 e64 e65 e66 e67 e68 e69 e70 e130 v0 f) 0 0 := by
      rw [kr_u41]
      revert h51
      generalize ku_M_reaches rt xt (2 * (d + 1) + m) = K
      intro h51
      refine And.intro (fun h9 => absurd h9 (nI_ge (by omega) (by omega))) (fun _ => ?_)
      exact h51
    rw [show 2 * (d + 1 + 1) + m = (2 * (d + 1) + m + 1) + 1 by omega]
    rw [kr_u51]
    revert h41
    generalize ku_M_reaches rt xt (2 * (d + 1) + m + 1) = K
    intro h41
    refine Exists.intro j (And.intro rfl (And.intro (by omega) ?_))
    refine And.intro (fun _ => ?_) (fun h9 => absurd (show (0 : Int32) ≤ nI 0 by decide) h9)
    intro v hv
    rw [kl_add] at hv
    subst hv
    exact h41
set_option maxRecDepth 100000 in
set_option maxHeartbeats 1000000 in
theorem kr_32 (rt : Option wq_V → wq_W → Prop) (xt : Nat → wq_W → Prop) {e0 e1 e2 e3 e4 e5 e6 e7 e8 e9 e10 e11 e12 e13 e14 e15 e16 e17 e18 e19 e20 e21 e22 e23 e24 e25 e26 e27 e28 e29 e30 e31 e32 e33 e34 e35 e36 e37 e38 e39 e40 e41 e42 e43 e44 e45 e46 e47 e48 e49 e50 e51 e52 e53 e54 e55 e56 e57 e58 e59 e60 e61 e62 e63 e64 e65 e66 e67 e68 e69 e70 e130 : wq_E} {v0 : wq_V} {a b : Int32} {f : Nat → Int32} {jb : Nat} (hb : b = nI jb) (hj : jb < 16) (hz : f jb = 0 ∨ f jb = 1) (hr : rt (some (.inl (.int (f jb)))) (kr_W e0 e1 e2 e3 e4 e5 e6 e7 e8 e9 e10 e11 e12 e13 e14 e15 e16 e17 e18 e19 e20 e21 e22 e23 e24 e25 e26 e27 e28 e29 e30 e31 e32 e33 e34 e35 e36 e37 e38 e39 e40 e41 e42 e43 e44 e45 e46 e47 e48 e49 e50 e51 e52 e53 e54 e55 e56 e57 e58 e59 e60 e61 e62 e63 e64 e65 e66 e67 e68 e69 e70 e130 v0 f)) (m : Nat) : ∀ (d c : Nat), c + d = 16 → ku_M_reaches rt xt (34 * d + 1 + m) 32 [(3, .inl (.int (nI c))), (4, .inl (.int (nI 16))), (5, .inl (.int (nI 0))), (0, .inl (.ref 71)), (1, .inl (.int a)), (2, .inl (.int b))] [] (kr_W e0 e1 e2 e3 e4 e5 e6 e7 e8 e9 e10 e11 e12 e13 e14 e15 e16 e17 e18 e19 e20 e21 e22 e23 e24 e25 e26 e27 e28 e29 e30 e31 e32 e33 e34 e35 e36 e37 e38 e39 e40 e41 e42 e43 e44 e45 e46 e47 e48 e49 e50 e51 e52 e53 e54 e55 e56 e57 e58 e59 e60 e61 e62 e63 e64 e65 e66 e67 e68 e69 e70 e130 v0 f) 0 0 := by
  intro d
  induction d with
  | zero =>
    intro c hc
    obtain rfl : c = 16 := by omega
    rw [show 34 * 0 + 1 + m = m + 1 by omega]
    rw [kr_u32]
    generalize ku_M_reaches rt xt m = K
    refine And.intro (fun _ => ?_) (fun h9 => absurd (by decide) h9)
    exact Exists.intro jb (And.intro hb (And.intro hj (And.intro hz hr)))
  | succ d ih =>
    intro c hc
    have h51 := kr_51 rt xt (34 * d + 1 + m) c (ih (c + 1) (by omega)) 15 0 rfl
    rw [show 34 * (d + 1) + 1 + m = (2 * (15 + 1) + (34 * d + 1 + m) + 1) + 1 by omega]
    have h41 : ku_M_reaches rt xt (2 * (15 + 1) + (34 * d + 1 + m) + 1) 41 [(4, .inl (.int (nI 0))), (3, .inl (.int (nI c))), (5, .inl (.int (nI 0))), (0, .inl (.ref 71)), (1, .inl (.int a)), (2, .inl (.int b))] [] (kr_W e0 e1 e2 e3 e4 e5 e6 e7 e8 e9 e10 e11 e12 e13 e14 e15 e16 e17 e18 e19 e20 e21 e22 e23 e24 e25 e26 e27 e28 e29 e30 e31 e32 e33 e34 e35 e36 e37 e38 e39 e40 e41 e42 e43 e44 e45 e46 e47 e48 e49 e50 e51 e52 e53 e54 e55 e56 e57 e58 e59 e60 e61 e62 e63 e64 e65 e66 e67 e68 e69 e70 e130 v0 f) 0 0 := by
      rw [kr_u41]
      revert h51
      generalize ku_M_reaches rt xt (2 * (15 + 1) + (34 * d + 1 + m)) = K
      intro h51
      refine And.intro (fun h9 => absurd h9 (by decide)) (fun _ => ?_)
      exact h51
    rw [kr_u32]
    revert h41
    generalize ku_M_reaches rt xt (2 * (15 + 1) + (34 * d + 1 + m) + 1) = K
    intro h41
    refine And.intro (fun h9 => absurd h9 (nI_ge (by omega) (by omega))) (fun _ => ?_)
    exact h41
set_option maxRecDepth 100000 in
set_option maxHeartbeats 1000000 in
theorem kr_30 (rt : Option wq_V → wq_W → Prop) (xt : Nat → wq_W → Prop) {e0 e1 e2 e3 e4 e5 e6 e7 e8 e9 e10 e11 e12 e13 e14 e15 e16 e17 e18 e19 e20 e21 e22 e23 e24 e25 e26 e27 e28 e29 e30 e31 e32 e33 e34 e35 e36 e37 e38 e39 e40 e41 e42 e43 e44 e45 e46 e47 e48 e49 e50 e51 e52 e53 e54 e55 e56 e57 e58 e59 e60 e61 e62 e63 e64 e65 e66 e67 e68 e69 e70 e130 : wq_E} {v0 : wq_V} {a b : Int32} {f : Nat → Int32} {jb : Nat} (hb : b = nI jb) (hj : jb < 16) (hz : f jb = 0 ∨ f jb = 1) (hr : rt (some (.inl (.int (f jb)))) (kr_W e0 e1 e2 e3 e4 e5 e6 e7 e8 e9 e10 e11 e12 e13 e14 e15 e16 e17 e18 e19 e20 e21 e22 e23 e24 e25 e26 e27 e28 e29 e30 e31 e32 e33 e34 e35 e36 e37 e38 e39 e40 e41 e42 e43 e44 e45 e46 e47 e48 e49 e50 e51 e52 e53 e54 e55 e56 e57 e58 e59 e60 e61 e62 e63 e64 e65 e66 e67 e68 e69 e70 e130 v0 f)) (m : Nat) : ku_M_reaches rt xt (545 + m) 32 [(3, .inl (.int (nI 0))), (0, .inl (.ref 71)), (1, .inl (.int a)), (2, .inl (.int b))] [] (kr_W e0 e1 e2 e3 e4 e5 e6 e7 e8 e9 e10 e11 e12 e13 e14 e15 e16 e17 e18 e19 e20 e21 e22 e23 e24 e25 e26 e27 e28 e29 e30 e31 e32 e33 e34 e35 e36 e37 e38 e39 e40 e41 e42 e43 e44 e45 e46 e47 e48 e49 e50 e51 e52 e53 e54 e55 e56 e57 e58 e59 e60 e61 e62 e63 e64 e65 e66 e67 e68 e69 e70 e130 v0 f) 0 0 := by
  have h51 := kr_51 rt xt (a := a) (34 * 15 + 1 + m) 0 (kr_32 rt xt (a := a) hb hj hz hr m 15 1 rfl) 15 0 rfl
  rw [show 545 + m = (2 * (15 + 1) + (34 * 15 + 1 + m) + 1) + 1 by omega]
  have h41 : ku_M_reaches rt xt (2 * (15 + 1) + (34 * 15 + 1 + m) + 1) 41 [(4, .inl (.int (nI 0))), (3, .inl (.int (nI 0))), (0, .inl (.ref 71)), (1, .inl (.int a)), (2, .inl (.int b))] [] (kr_W e0 e1 e2 e3 e4 e5 e6 e7 e8 e9 e10 e11 e12 e13 e14 e15 e16 e17 e18 e19 e20 e21 e22 e23 e24 e25 e26 e27 e28 e29 e30 e31 e32 e33 e34 e35 e36 e37 e38 e39 e40 e41 e42 e43 e44 e45 e46 e47 e48 e49 e50 e51 e52 e53 e54 e55 e56 e57 e58 e59 e60 e61 e62 e63 e64 e65 e66 e67 e68 e69 e70 e130 v0 f) 0 0 := by
    rw [kr_u41]
    revert h51
    generalize ku_M_reaches rt xt (2 * (15 + 1) + (34 * 15 + 1 + m)) = K
    intro h51
    refine And.intro (fun h9 => absurd h9 (by decide)) (fun _ => ?_)
    exact h51
  rw [kr_u32]
  revert h41
  generalize ku_M_reaches rt xt (2 * (15 + 1) + (34 * 15 + 1 + m) + 1) = K
  intro h41
  refine And.intro (fun h9 => absurd h9 (by decide)) (fun _ => ?_)
  exact h41
set_option maxRecDepth 100000 in
set_option maxHeartbeats 1000000 in
theorem kr_2 (rt : Option wq_V → wq_W → Prop) (xt : Nat → wq_W → Prop) {e0 e1 e2 e3 e4 e5 e6 e7 e8 e9 e10 e11 e12 e13 e14 e15 e16 e17 e18 e19 e20 e21 e22 e23 e24 e25 e26 e27 e28 e29 e30 e31 e32 e33 e34 e35 e36 e37 e38 e39 e40 e41 e42 e43 e44 e45 e46 e47 e48 e49 e50 e51 e52 e53 e54 e55 e56 e57 e58 e59 e60 e61 e62 e63 e64 e65 e66 e67 e68 e69 e70 e130 : wq_E} {v0 : wq_V} {a b : Int32} {jb : Nat} (hb : b = nI jb) (hj : jb < 16) (h1 : a = b → ∀ f, rt (some (.inl (.int 1))) (kr_W e0 e1 e2 e3 e4 e5 e6 e7 e8 e9 e10 e11 e12 e13 e14 e15 e16 e17 e18 e19 e20 e21 e22 e23 e24 e25 e26 e27 e28 e29 e30 e31 e32 e33 e34 e35 e36 e37 e38 e39 e40 e41 e42 e43 e44 e45 e46 e47 e48 e49 e50 e51 e52 e53 e54 e55 e56 e57 e58 e59 e60 e61 e62 e63 e64 e65 e66 e67 e68 e69 e70 e130 v0 f)) (h0 : ¬ a = b → ∀ f, rt (some (.inl (.int 0))) (kr_W e0 e1 e2 e3 e4 e5 e6 e7 e8 e9 e10 e11 e12 e13 e14 e15 e16 e17 e18 e19 e20 e21 e22 e23 e24 e25 e26 e27 e28 e29 e30 e31 e32 e33 e34 e35 e36 e37 e38 e39 e40 e41 e42 e43 e44 e45 e46 e47 e48 e49 e50 e51 e52 e53 e54 e55 e56 e57 e58 e59 e60 e61 e62 e63 e64 e65 e66 e67 e68 e69 e70 e130 v0 f)) (m : Nat) : ∀ (d i : Nat) (f : Nat → Int32), i + d = 16 → (∀ q, q < i → f q = if nI q = a then 1 else 0) → ku_M_reaches rt xt (d + 1 + (545 + m)) 2 [(3, .inl (.int (nI i))), (0, .inl (.ref 71)), (1, .inl (.int a)), (2, .inl (.int b))] [] (kr_W e0 e1 e2 e3 e4 e5 e6 e7 e8 e9 e10 e11 e12 e13 e14 e15 e16 e17 e18 e19 e20 e21 e22 e23 e24 e25 e26 e27 e28 e29 e30 e31 e32 e33 e34 e35 e36 e37 e38 e39 e40 e41 e42 e43 e44 e45 e46 e47 e48 e49 e50 e51 e52 e53 e54 e55 e56 e57 e58 e59 e60 e61 e62 e63 e64 e65 e66 e67 e68 e69 e70 e130 v0 f) 0 0 := by
  intro d
  induction d with
  | zero =>
    intro i f hi hf
    obtain rfl : i = 16 := by omega
    have h30 : ku_M_reaches rt xt (545 + m) 32 [(3, .inl (.int (nI 0))), (0, .inl (.ref 71)), (1, .inl (.int a)), (2, .inl (.int b))] [] (kr_W e0 e1 e2 e3 e4 e5 e6 e7 e8 e9 e10 e11 e12 e13 e14 e15 e16 e17 e18 e19 e20 e21 e22 e23 e24 e25 e26 e27 e28 e29 e30 e31 e32 e33 e34 e35 e36 e37 e38 e39 e40 e41 e42 e43 e44 e45 e46 e47 e48 e49 e50 e51 e52 e53 e54 e55 e56 e57 e58 e59 e60 e61 e62 e63 e64 e65 e66 e67 e68 e69 e70 e130 v0 f) 0 0 := by
      have e := hf jb hj
      by_cases hab : a = b
      · rw [if_pos (by rw [← hb, hab])] at e
        exact kr_30 rt xt hb hj (Or.inr e) (by rw [e]; exact h1 hab f) m
      · rw [if_neg (by rw [← hb]; exact fun h => hab h.symm)] at e
        exact kr_30 rt xt hb hj (Or.inl e) (by rw [e]; exact h0 hab f) m
    rw [show 0 + 1 + (545 + m) = (545 + m) + 1 by omega]
    rw [kr_u2]
    revert h30
    generalize ku_M_reaches rt xt (545 + m) = K
    intro h30
    refine And.intro (fun _ => ?_) (fun h9 => absurd (by decide) h9)
    exact h30
  | succ d ih =>
    intro i f hi hf
    have ih1 := fun g => ih (i + 1) g (by omega)
    rw [show d + 1 + 1 + (545 + m) = (d + 1 + (545 + m)) + 1 by omega]
    rw [kr_u2]
    revert ih1
    generalize ku_M_reaches rt xt (d + 1 + (545 + m)) = K
    intro ih1
    refine And.intro (fun h9 => absurd h9 (nI_ge (by omega) (by omega))) (fun _ => ?_)
    refine And.intro (fun h9 => ?_) (fun h9 => ?_)
    · refine Exists.intro i (And.intro rfl (And.intro (by omega) ?_))
      intro v hv
      rw [kl_add] at hv
      subst hv
      refine ih1 (upd f i (vp_nar .boolean (nI 1))) (fun q hq => ?_)
      by_cases e : q = i
      · subst e
        rw [if_pos h9]
        exact (if_pos rfl).trans (by decide)
      · exact (if_neg e).trans (hf q (by omega))
    · refine Exists.intro i (And.intro rfl (And.intro (by omega) ?_))
      intro v hv
      rw [kl_add] at hv
      subst hv
      refine ih1 (upd f i (vp_nar .boolean (nI 0))) (fun q hq => ?_)
      by_cases e : q = i
      · subst e
        rw [if_neg h9]
        exact (if_pos rfl).trans (by decide)
      · exact (if_neg e).trans (hf q (by omega))
set_option maxRecDepth 100000 in
set_option maxHeartbeats 1000000 in
theorem kr_all (k : Option wq_V → wq_W → Prop) (x : Nat → wq_W → Prop) {e0 e1 e2 e3 e4 e5 e6 e7 e8 e9 e10 e11 e12 e13 e14 e15 e16 e17 e18 e19 e20 e21 e22 e23 e24 e25 e26 e27 e28 e29 e30 e31 e32 e33 e34 e35 e36 e37 e38 e39 e40 e41 e42 e43 e44 e45 e46 e47 e48 e49 e50 e51 e52 e53 e54 e55 e56 e57 e58 e59 e60 e61 e62 e63 e64 e65 e66 e67 e68 e69 e70 e130 : wq_E} {v0 : wq_V} {a b : Int32} {f : Nat → Int32} {jb : Nat} (hb : b = nI jb) (hj : jb < 16) (h1 : a = b → ∀ f, k (some (.inl (.int 1))) (kr_W e0 e1 e2 e3 e4 e5 e6 e7 e8 e9 e10 e11 e12 e13 e14 e15 e16 e17 e18 e19 e20 e21 e22 e23 e24 e25 e26 e27 e28 e29 e30 e31 e32 e33 e34 e35 e36 e37 e38 e39 e40 e41 e42 e43 e44 e45 e46 e47 e48 e49 e50 e51 e52 e53 e54 e55 e56 e57 e58 e59 e60 e61 e62 e63 e64 e65 e66 e67 e68 e69 e70 e130 v0 f)) (h0 : ¬ a = b → ∀ f, k (some (.inl (.int 0))) (kr_W e0 e1 e2 e3 e4 e5 e6 e7 e8 e9 e10 e11 e12 e13 e14 e15 e16 e17 e18 e19 e20 e21 e22 e23 e24 e25 e26 e27 e28 e29 e30 e31 e32 e33 e34 e35 e36 e37 e38 e39 e40 e41 e42 e43 e44 e45 e46 e47 e48 e49 e50 e51 e52 e53 e54 e55 e56 e57 e58 e59 e60 e61 e62 e63 e64 e65 e66 e67 e68 e69 e70 e130 v0 f)) : ks_M_reaches [.inl (.ref 71), .inl (.int a), .inl (.int b)] (kr_W e0 e1 e2 e3 e4 e5 e6 e7 e8 e9 e10 e11 e12 e13 e14 e15 e16 e17 e18 e19 e20 e21 e22 e23 e24 e25 e26 e27 e28 e29 e30 e31 e32 e33 e34 e35 e36 e37 e38 e39 e40 e41 e42 e43 e44 e45 e46 e47 e48 e49 e50 e51 e52 e53 e54 e55 e56 e57 e58 e59 e60 e61 e62 e63 e64 e65 e66 e67 e68 e69 e70 e130 v0 f) k x := by
  have h := kr_2 k x hb hj h1 h0 138 16 0 f rfl (fun q hq => absurd hq (by omega))
  show kt_M_reaches_0 k x (ku_M_reaches k x 700) _ _ _ _ _
  rw [show 16 + 1 + (545 + 138) = 700 from rfl] at h
  revert h
  generalize ku_M_reaches k x 700 = K
  intro h
  exact h
