def km_W (e0 e1 e2 e3 e4 e5 e6 e7 e8 e9 e10 e11 e12 e13 e14 e15 e16 e17 e18 e19 e20 e21 e22 e23 e24 e25 e26 e27 e28 e29 e30 e31 e32 e33 e34 e35 e36 e37 e38 e39 e40 e41 e42 e43 e44 e45 e46 e47 e48 e49 e50 e51 e52 e53 e54 e55 e56 e57 e58 e59 e60 e61 e62 e63 e64 e65 e66 e67 e68 e69 e70 e130 : wq_E) (v0 : wq_V) (f32 f33 f34 : Nat → Int32) : wq_W := [e0, e1, e2, e3, e4, e5, e6, e7, e8, e9, e10, e11, e12, e13, e14, e15, e16, e17, e18, e19, e20, e21, e22, e23, e24, e25, e26, e27, e28, e29, e30, e31, e32, e33, e34, e35, e36, e37, e38, e39, e40, e41, e42, e43, e44, e45, e46, e47, e48, e49, e50, e51, e52, e53, e54, e55, e56, e57, e58, e59, e60, e61, e62, e63, e64, e65, e66, e67, e68, e69, e70, .inr (.inl (9, [v0, .inl (.int 0), .inl (.ref 72), .inl (.ref 73), .inl (.ref 74), .inl (.int 0), .inl (.ref 75), .inl (.ref 76), .inl (.ref 77), .inl (.ref 78), .inl (.int 0), .inl (.ref 79), .inl (.ref 80), .inl (.ref 81), .inl (.ref 82), .inl (.ref 83), .inl (.ref 84), .inl (.ref 85), .inl (.int 0), .inl (.ref 86), .inl (.ref 87), .inl (.ref 88), .inl (.ref 89), .inl (.ref 90), .inl (.ref 91), .inl (.ref 92), .inl (.ref 93), .inl (.ref 94), .inl (.ref 95), .inl (.ref 96), .inl (.ref 97), .inl (.ref 98), .inl (.ref 99), .inl (.ref 100), .inl (.ref 101), .inl (.int 0), .inl (.ref 102), .inl (.ref 103), .inl (.ref 104), .inl (.ref 105), .inl (.ref 106), .inl (.int (-1)), .inl (.ref 107), .inl (.ref 108), .inl (.ref 109), .inl (.ref 110), .inl (.ref 111), .inl (.ref 112), .inl (.ref 113), .inl (.ref 114), .inl (.ref 115), .inl (.ref 116), .inl (.ref 117), .inl (.ref 118), .inl (.ref 119), .inl (.ref 120), .inl (.int 0), .inl (.ref 121), .inl (.ref 122), .inl (.ref 123), .inl (.ref 124), .inl (.ref 125), .inl (.ref 126), .inl (.ref 127), .inl (.ref 128), .inl (.ref 129), .inl (.long 0), .inl (.long 0)])), .inl (0, (24, .inl fun _ => 0)), .inl (0, (24, .inl fun _ => 0)), .inl (0, (24, .inl fun _ => 0)), .inl (0, (40, .inl fun _ => 0)), .inl (0, (40, .inl fun _ => 0)), .inl (0, (40, .inl fun _ => 0)), .inl (0, (40, .inl fun _ => 0)), .inl (0, (40, .inl fun _ => 0)), .inl (0, (40, .inl fun _ => 0)), .inl (0, (40, .inl fun _ => 0)), .inl (0, (40, .inl fun _ => 0)), .inl (0, (40, .inl fun _ => 0)), .inl (0, (40, .inl fun _ => 0)), .inl (0, (40, .inl fun _ => 0)), .inl (0, (8, .inl fun _ => 0)), .inl (0, (8, .inl fun _ => 0)), .inl (0, (8, .inl fun _ => 0)), .inl (0, (8, .inl fun _ => 0)), .inl (0, (8, .inl fun _ => 0)), .inl (0, (8, .inl fun _ => 0)), .inl (0, (8, .inl fun _ => 0)), .inl (0, (128, .inl fun _ => 0)), .inl (0, (16, .inl fun _ => 0)), .inl (0, (80, .inl fun _ => 0)), .inl (0, (80, .inl fun _ => 0)), .inl (0, (80, .inl fun _ => 0)), .inl (0, (4, .inl fun _ => 0)), .inl (0, (16, .inl f32)), .inl (2, (16, .inl f33)), .inl (2, (16, .inl f34)), .inl (0, (12, .inl fun _ => 0)), .inl (0, (12, .inl fun _ => 0)), .inl (0, (12, .inl fun _ => 0)), .inl (0, (24, .inl fun _ => 0)), .inl (2, (12, .inl fun _ => 0)), .inl (0, (48, .inl fun _ => 0)), .inl (0, (48, .inl fun _ => 0)), .inl (2, (48, .inl fun _ => 0)), .inl (0, (144, .inl fun _ => 0)), .inl (1, (48, .inr (.inl fun _ => 0))), .inl (1, (4, .inr (.inl fun _ => 0))), .inl (0, (48, .inl fun _ => 0)), .inl (0, (48, .inl fun _ => 0)), .inl (0, (48, .inl fun _ => 0)), .inl (1, (48, .inr (.inl fun _ => 0))), .inl (0, (4, .inl fun _ => 0)), .inl (0, (4, .inl fun _ => 0)), .inl (0, (4, .inl fun _ => 0)), .inl (1, (4, .inr (.inl fun _ => 0))), .inl (0, (40, .inl fun _ => 0)), .inl (0, (40, .inl fun _ => 0)), .inl (0, (40, .inl fun _ => 0)), .inl (1, (40, .inr (.inl fun _ => 0))), .inl (2, (40, .inl fun _ => 0)), .inl (2, (40, .inl fun _ => 0)), .inl (0, (16, .inl fun _ => 0)), .inl (0, (16, .inl fun _ => 0)), .inl (0, (16, .inl fun _ => 0)), e130]
theorem km_u39 (rt : Option wq_V → wq_W → Prop) (xt : Nat → wq_W → Prop) (n : Nat) : ku_M_madeIn rt xt (n + 1) 39 = kh_M_madeIn_39 rt xt (ku_M_madeIn rt xt n) := rfl
theorem km_u71 (rt : Option wq_V → wq_W → Prop) (xt : Nat → wq_W → Prop) (n : Nat) : ku_M_madeIn rt xt (n + 1) 71 = kh_M_madeIn_71 rt xt (ku_M_madeIn rt xt n) := rfl
theorem km_u80 (rt : Option wq_V → wq_W → Prop) (xt : Nat → wq_W → Prop) (n : Nat) : ku_M_madeIn rt xt (n + 1) 80 = kh_M_madeIn_80 rt xt (ku_M_madeIn rt xt n) := rfl
theorem km_u110 (rt : Option wq_V → wq_W → Prop) (xt : Nat → wq_W → Prop) (n : Nat) : ku_M_madeIn rt xt (n + 1) 110 = kh_M_madeIn_110 rt xt (ku_M_madeIn rt xt n) := rfl
set_option maxRecDepth 100000 in
set_option maxHeartbeats 1000000 in
theorem km_one (rt : Option wq_V → wq_W → Prop) (xt : Nat → wq_W → Prop) {e0 e1 e2 e3 e4 e5 e6 e7 e8 e9 e10 e11 e12 e13 e14 e15 e16 e17 e18 e19 e20 e21 e22 e23 e24 e25 e26 e27 e28 e29 e30 e31 e32 e33 e34 e35 e36 e37 e38 e39 e40 e41 e42 e43 e44 e45 e46 e47 e48 e49 e50 e51 e52 e53 e54 e55 e56 e57 e58 e59 e60 e61 e62 e63 e64 e65 e66 e67 e68 e69 e70 e130 : wq_E} {v0 : wq_V} {a z : Int32} {f32 : Nat → Int32} (hn : ∀ q, q < 16 → f32 q < 0) {jz : Nat} (hz : z = nI jz) (hjz : jz < 4) (K : Nat → wq_T) (c j : Nat) (hj : j < 16) (h80 : ∀ (f33 f34 : Nat → Int32) (x5 x6 : Int32), (∀ q, f34 q = 0) → K 80 [(4, .inl (.int (nI (j + 1)))), (6, .inl (.int x6)), (5, .inl (.int x5)), (3, .inl (.int (nI c))), (0, .inl (.ref 71)), (1, .inl (.int a)), (2, .inl (.int z))] [] (km_W e0 e1 e2 e3 e4 e5 e6 e7 e8 e9 e10 e11 e12 e13 e14 e15 e16 e17 e18 e19 e20 e21 e22 e23 e24 e25 e26 e27 e28 e29 e30 e31 e32 e33 e34 e35 e36 e37 e38 e39 e40 e41 e42 e43 e44 e45 e46 e47 e48 e49 e50 e51 e52 e53 e54 e55 e56 e57 e58 e59 e60 e61 e62 e63 e64 e65 e66 e67 e68 e69 e70 e130 v0 f32 f33 f34) 0 0) (f33 f34 : Nat → Int32) (x5 : Int32) (hi : ∀ q, f34 q = 0) : kh_M_madeIn_110 rt xt K [(6, .inl (.int (nI 5 * nI j))), (5, .inl (.int x5)), (4, .inl (.int (nI j))), (3, .inl (.int (nI c))), (0, .inl (.ref 71)), (1, .inl (.int a)), (2, .inl (.int z))] [] (km_W e0 e1 e2 e3 e4 e5 e6 e7 e8 e9 e10 e11 e12 e13 e14 e15 e16 e17 e18 e19 e20 e21 e22 e23 e24 e25 e26 e27 e28 e29 e30 e31 e32 e33 e34 e35 e36 e37 e38 e39 e40 e41 e42 e43 e44 e45 e46 e47 e48 e49 e50 e51 e52 e53 e54 e55 e56 e57 e58 e59 e60 e61 e62 e63 e64 e65 e66 e67 e68 e69 e70 e130 v0 f32 f33 f34) 0 0 := by
  refine Exists.intro j (And.intro rfl (And.intro hj ?_))
  refine And.intro (fun _ => ?_) (fun h9 => absurd (by dsimp only; rw [Int32.add_zero]; exact Int32.le_refl _) h9)
  refine And.intro (fun _ => ?_) (fun _ => ?_)
  · intro v hv
    rw [kl_add] at hv
    subst hv
    exact h80 f33 f34 _ _ hi
  · refine Exists.intro jz (And.intro hz (And.intro hjz ?_))
    refine Exists.intro j (And.intro rfl (And.intro hj ?_))
    refine And.intro (fun _ => ?_) (fun h9 => absurd (hn j hj) h9)
    refine And.intro (fun _ => ?_) (fun h9 => absurd (hn j hj) h9)
    refine And.intro (Or.inl rfl) ?_
    refine Exists.intro j (And.intro rfl (And.intro hj ?_))
    refine Exists.intro j (And.intro rfl (And.intro hj ?_))
    intro v hv
    rw [kl_add] at hv
    subst hv
    refine h80 _ (upd f34 j (vp_nar .boolean (nI 0))) _ _ (fun q => ?_)
    by_cases e : q = j
    · exact (if_pos e).trans (by decide)
    · exact (if_neg e).trans (hi q)
set_option maxRecDepth 100000 in
set_option maxHeartbeats 1000000 in
theorem km_110 (rt : Option wq_V → wq_W → Prop) (xt : Nat → wq_W → Prop) {e0 e1 e2 e3 e4 e5 e6 e7 e8 e9 e10 e11 e12 e13 e14 e15 e16 e17 e18 e19 e20 e21 e22 e23 e24 e25 e26 e27 e28 e29 e30 e31 e32 e33 e34 e35 e36 e37 e38 e39 e40 e41 e42 e43 e44 e45 e46 e47 e48 e49 e50 e51 e52 e53 e54 e55 e56 e57 e58 e59 e60 e61 e62 e63 e64 e65 e66 e67 e68 e69 e70 e130 : wq_E} {v0 : wq_V} {a z : Int32} {f32 : Nat → Int32} (hn : ∀ q, q < 16 → f32 q < 0) {jz : Nat} (hz : z = nI jz) (hjz : jz < 4) (m c : Nat) (h : ∀ (f33 f34 : Nat → Int32) (x5 x6 : Int32), (∀ q, f34 q = 0) → ku_M_madeIn rt xt m 71 [(3, .inl (.int (nI (c + 1)))), (4, .inl (.int (nI 16))), (6, .inl (.int x6)), (5, .inl (.int x5)), (0, .inl (.ref 71)), (1, .inl (.int a)), (2, .inl (.int z))] [] (km_W e0 e1 e2 e3 e4 e5 e6 e7 e8 e9 e10 e11 e12 e13 e14 e15 e16 e17 e18 e19 e20 e21 e22 e23 e24 e25 e26 e27 e28 e29 e30 e31 e32 e33 e34 e35 e36 e37 e38 e39 e40 e41 e42 e43 e44 e45 e46 e47 e48 e49 e50 e51 e52 e53 e54 e55 e56 e57 e58 e59 e60 e61 e62 e63 e64 e65 e66 e67 e68 e69 e70 e130 v0 f32 f33 f34) 0 0) : ∀ (d j : Nat), j + (d + 1) = 16 → ∀ (f33 f34 : Nat → Int32) (x5 : Int32), (∀ q, f34 q = 0) → ku_M_madeIn rt xt (2 * (d + 1) + m) 110 [(6, .inl (.int (nI 5 * nI j))), (5, .inl (.int x5)), (4, .inl (.int (nI j))), (3, .inl (.int (nI c))), (0, .inl (.ref 71)), (1, .inl (.int a)), (2, .inl (.int z))] [] (km_W e0 e1 e2 e3 e4 e5 e6 e7 e8 e9 e10 e11 e12 e13 e14 e15 e16 e17 e18 e19 e20 e21 e22 e23 e24 e25 e26 e27 e28 e29 e30 e31 e32 e33 e34 e35 e36 e37 e38 e39 e40 e41 e42 e43 e44 e45 e46 e47 e48 e49 e50 e51 e52 e53 e54 e55 e56 e57 e58 e59 e60 e61 e62 e63 e64 e65 e66 e67 e68 e69 e70 e130 v0 f32 f33 f34) 0 0 := by
  intro d
  induction d with
  | zero =>
    intro j hj f33 f34 x5 hi
    obtain rfl : j = 15 := by omega
    have h80 : ∀ (f33 f34 : Nat → Int32) (x5 x6 : Int32), (∀ q, f34 q = 0) → ku_M_madeIn rt xt (m + 1) 80 [(4, .inl (.int (nI (15 + 1)))), (6, .inl (.int x6)), (5, .inl (.int x5)), (3, .inl (.int (nI c))), (0, .inl (.ref 71)), (1, .inl (.int a)), (2, .inl (.int z))] [] (km_W e0 e1 e2 e3 e4 e5 e6 e7 e8 e9 e10 e11 e12 e13 e14 e15 e16 e17 e18 e19 e20 e21 e22 e23 e24 e25 e26 e27 e28 e29 e30 e31 e32 e33 e34 e35 e36 e37 e38 e39 e40 e41 e42 e43 e44 e45 e46 e47 e48 e49 e50 e51 e52 e53 e54 e55 e56 e57 e58 e59 e60 e61 e62 e63 e64 e65 e66 e67 e68 e69 e70 e130 v0 f32 f33 f34) 0 0 := by
      intro f33 f34 x5 x6 hi
      have h' := h f33 f34 x5 x6 hi
      rw [km_u80]
      revert h'
      generalize ku_M_madeIn rt xt m = K
      intro h'
      refine And.intro (fun _ => ?_) (fun h9 => absurd (by decide) h9)
      intro v hv
      rw [kl_add] at hv
      subst hv
      exact h'
    rw [show 2 * (0 + 1) + m = (m + 1) + 1 by omega, km_u110]
    exact km_one rt xt hn hz hjz _ c 15 (by omega) h80 f33 f34 x5 hi
  | succ d ih =>
    intro j hj f33 f34 x5 hi
    have ih1 := ih (j + 1) (by omega)
    have h80 : ∀ (f33 f34 : Nat → Int32) (x5 x6 : Int32), (∀ q, f34 q = 0) → ku_M_madeIn rt xt (2 * (d + 1) + m + 1) 80 [(4, .inl (.int (nI (j + 1)))), (6, .inl (.int x6)), (5, .inl (.int x5)), (3, .inl (.int (nI c))), (0, .inl (.ref 71)), (1, .inl (.int a)), (2, .inl (.int z))] [] (km_W e0 e1 e2 e3 e4 e5 e6 e7 e8 e9 e10 e11 e12 e13 e14 e15 e16 e17 e18 e19 e20 e21 e22 e23 e24 e25 e26 e27 e28 e29 e30 e31 e32 e33 e34 e35 e36 e37 e38 e39 e40 e41 e42 e43 e44 e45 e46 e47 e48 e49 e50 e51 e52 e53 e54 e55 e56 e57 e58 e59 e60 e61 e62 e63 e64 e65 e66 e67 e68 e69 e70 e130 v0 f32 f33 f34) 0 0 := by
      intro f33 f34 x5 x6 hi
      have h1 := ih1 f33 f34 (nI 1) hi
      have h0 := ih1 f33 f34 (nI 0) hi
      rw [km_u80]
      revert h1 h0
      generalize ku_M_madeIn rt xt (2 * (d + 1) + m) = K
      intro h1 h0
      refine And.intro (fun h9 => absurd h9 (nI_ge (by omega) (by omega))) (fun _ => ?_)
      refine Exists.intro (j + 1) (And.intro rfl (And.intro (by omega) ?_))
      refine And.intro (fun _ => ?_) (fun _ => ?_)
      · exact h1
      · exact h0
    rw [show 2 * (d + 1 + 1) + m = (2 * (d + 1) + m + 1) + 1 by omega, km_u110]
    exact km_one rt xt hn hz hjz _ c j (by omega) h80 f33 f34 x5 hi
