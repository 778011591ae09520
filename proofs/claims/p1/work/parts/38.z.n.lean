set_option maxRecDepth 100000 in
set_option maxHeartbeats 1000000 in
theorem km_71 (rt : Option wq_V → wq_W → Prop) (xt : Nat → wq_W → Prop) {e0 e1 e2 e3 e4 e5 e6 e7 e8 e9 e10 e11 e12 e13 e14 e15 e16 e17 e18 e19 e20 e21 e22 e23 e24 e25 e26 e27 e28 e29 e30 e31 e32 e33 e34 e35 e36 e37 e38 e39 e40 e41 e42 e43 e44 e45 e46 e47 e48 e49 e50 e51 e52 e53 e54 e55 e56 e57 e58 e59 e60 e61 e62 e63 e64 e65 e66 e67 e68 e69 e70 e130 : wq_E} {v0 : wq_V} {a z : Int32} {f32 : Nat → Int32} (hn : ∀ q, q < 16 → f32 q < 0) {jz : Nat} (hz : z = nI jz) (hjz : jz < 4) {ja : Nat} (ha : a = nI ja) (hj : ja < 16) (hr : ∀ f33 f34, rt (some (.inl (.int 0))) (km_W e0 e1 e2 e3 e4 e5 e6 e7 e8 e9 e10 e11 e12 e13 e14 e15 e16 e17 e18 e19 e20 e21 e22 e23 e24 e25 e26 e27 e28 e29 e30 e31 e32 e33 e34 e35 e36 e37 e38 e39 e40 e41 e42 e43 e44 e45 e46 e47 e48 e49 e50 e51 e52 e53 e54 e55 e56 e57 e58 e59 e60 e61 e62 e63 e64 e65 e66 e67 e68 e69 e70 e130 v0 f32 f33 f34)) (m : Nat) : ∀ (d c : Nat), c + d = 16 → ∀ (f33 f34 : Nat → Int32) (x5 x6 : Int32), (∀ q, f34 q = 0) → ku_M_madeIn rt xt (34 * d + 1 + m) 71 [(3, .inl (.int (nI c))), (4, .inl (.int (nI 16))), (6, .inl (.int x6)), (5, .inl (.int x5)), (0, .inl (.ref 71)), (1, .inl (.int a)), (2, .inl (.int z))] [] (km_W e0 e1 e2 e3 e4 e5 e6 e7 e8 e9 e10 e11 e12 e13 e14 e15 e16 e17 e18 e19 e20 e21 e22 e23 e24 e25 e26 e27 e28 e29 e30 e31 e32 e33 e34 e35 e36 e37 e38 e39 e40 e41 e42 e43 e44 e45 e46 e47 e48 e49 e50 e51 e52 e53 e54 e55 e56 e57 e58 e59 e60 e61 e62 e63 e64 e65 e66 e67 e68 e69 e70 e130 v0 f32 f33 f34) 0 0 := by
  intro d
  induction d with
  | zero =>
    intro c hc f33 f34 x5 x6 hi
    obtain rfl : c = 16 := by omega
    have hr' : rt (some (.inl (.int (f34 ja)))) (km_W e0 e1 e2 e3 e4 e5 e6 e7 e8 e9 e10 e11 e12 e13 e14 e15 e16 e17 e18 e19 e20 e21 e22 e23 e24 e25 e26 e27 e28 e29 e30 e31 e32 e33 e34 e35 e36 e37 e38 e39 e40 e41 e42 e43 e44 e45 e46 e47 e48 e49 e50 e51 e52 e53 e54 e55 e56 e57 e58 e59 e60 e61 e62 e63 e64 e65 e66 e67 e68 e69 e70 e130 v0 f32 f33 f34) := by
      rw [hi ja]
      exact hr f33 f34
    rw [show 34 * 0 + 1 + m = m + 1 by omega, km_u71]
    generalize ku_M_madeIn rt xt m = K
    refine And.intro (fun _ => ?_) (fun h9 => absurd (by decide) h9)
    exact Exists.intro ja (And.intro ha (And.intro hj (And.intro (Or.inl (hi ja)) hr')))
  | succ d ih =>
    intro c hc f33 f34 x5 x6 hi
    have h110 := km_110 rt xt hn hz hjz (34 * d + 1 + m) c (ih (c + 1) (by omega)) 15 0 rfl
    rw [show 34 * (d + 1) + 1 + m = (2 * (15 + 1) + (34 * d + 1 + m) + 1) + 1 by omega]
    have h80 : ku_M_madeIn rt xt (2 * (15 + 1) + (34 * d + 1 + m) + 1) 80 [(4, .inl (.int (nI 0))), (3, .inl (.int (nI c))), (6, .inl (.int x6)), (5, .inl (.int x5)), (0, .inl (.ref 71)), (1, .inl (.int a)), (2, .inl (.int z))] [] (km_W e0 e1 e2 e3 e4 e5 e6 e7 e8 e9 e10 e11 e12 e13 e14 e15 e16 e17 e18 e19 e20 e21 e22 e23 e24 e25 e26 e27 e28 e29 e30 e31 e32 e33 e34 e35 e36 e37 e38 e39 e40 e41 e42 e43 e44 e45 e46 e47 e48 e49 e50 e51 e52 e53 e54 e55 e56 e57 e58 e59 e60 e61 e62 e63 e64 e65 e66 e67 e68 e69 e70 e130 v0 f32 f33 f34) 0 0 := by
      have h1 := h110 f33 f34 (nI 1) hi
      have h0 := h110 f33 f34 (nI 0) hi
      rw [km_u80]
      revert h1 h0
      generalize ku_M_madeIn rt xt (2 * (15 + 1) + (34 * d + 1 + m)) = K
      intro h1 h0
      refine And.intro (fun h9 => absurd h9 (by decide)) (fun _ => ?_)
      refine Exists.intro 0 (And.intro rfl (And.intro (by decide) ?_))
      refine And.intro (fun _ => ?_) (fun _ => ?_)
      · exact h1
      · exact h0
    rw [km_u71]
    revert h80
    generalize ku_M_madeIn rt xt (2 * (15 + 1) + (34 * d + 1 + m) + 1) = K
    intro h80
    refine And.intro (fun h9 => absurd h9 (nI_ge (by omega) (by omega))) (fun _ => ?_)
    exact h80
set_option maxRecDepth 100000 in
set_option maxHeartbeats 1000000 in
theorem km_70 (rt : Option wq_V → wq_W → Prop) (xt : Nat → wq_W → Prop) {e0 e1 e2 e3 e4 e5 e6 e7 e8 e9 e10 e11 e12 e13 e14 e15 e16 e17 e18 e19 e20 e21 e22 e23 e24 e25 e26 e27 e28 e29 e30 e31 e32 e33 e34 e35 e36 e37 e38 e39 e40 e41 e42 e43 e44 e45 e46 e47 e48 e49 e50 e51 e52 e53 e54 e55 e56 e57 e58 e59 e60 e61 e62 e63 e64 e65 e66 e67 e68 e69 e70 e130 : wq_E} {v0 : wq_V} {a z : Int32} {f32 : Nat → Int32} (hn : ∀ q, q < 16 → f32 q < 0) {jz : Nat} (hz : z = nI jz) (hjz : jz < 4) {ja : Nat} (ha : a = nI ja) (hj : ja < 16) (hr : ∀ f33 f34, rt (some (.inl (.int 0))) (km_W e0 e1 e2 e3 e4 e5 e6 e7 e8 e9 e10 e11 e12 e13 e14 e15 e16 e17 e18 e19 e20 e21 e22 e23 e24 e25 e26 e27 e28 e29 e30 e31 e32 e33 e34 e35 e36 e37 e38 e39 e40 e41 e42 e43 e44 e45 e46 e47 e48 e49 e50 e51 e52 e53 e54 e55 e56 e57 e58 e59 e60 e61 e62 e63 e64 e65 e66 e67 e68 e69 e70 e130 v0 f32 f33 f34)) (m : Nat) (f33 f34 : Nat → Int32) (hi : ∀ q, f34 q = 0) : ku_M_madeIn rt xt (545 + m) 71 [(3, .inl (.int (nI 0))), (0, .inl (.ref 71)), (1, .inl (.int a)), (2, .inl (.int z))] [] (km_W e0 e1 e2 e3 e4 e5 e6 e7 e8 e9 e10 e11 e12 e13 e14 e15 e16 e17 e18 e19 e20 e21 e22 e23 e24 e25 e26 e27 e28 e29 e30 e31 e32 e33 e34 e35 e36 e37 e38 e39 e40 e41 e42 e43 e44 e45 e46 e47 e48 e49 e50 e51 e52 e53 e54 e55 e56 e57 e58 e59 e60 e61 e62 e63 e64 e65 e66 e67 e68 e69 e70 e130 v0 f32 f33 f34) 0 0 := by
  have h110 := km_110 rt xt hn hz hjz (34 * 15 + 1 + m) 0 (km_71 rt xt hn hz hjz ha hj hr m 15 1 rfl) 15 0 rfl
  rw [show 545 + m = (2 * (15 + 1) + (34 * 15 + 1 + m) + 1) + 1 by omega]
  have h80 : ku_M_madeIn rt xt (2 * (15 + 1) + (34 * 15 + 1 + m) + 1) 80 [(4, .inl (.int (nI 0))), (3, .inl (.int (nI 0))), (0, .inl (.ref 71)), (1, .inl (.int a)), (2, .inl (.int z))] [] (km_W e0 e1 e2 e3 e4 e5 e6 e7 e8 e9 e10 e11 e12 e13 e14 e15 e16 e17 e18 e19 e20 e21 e22 e23 e24 e25 e26 e27 e28 e29 e30 e31 e32 e33 e34 e35 e36 e37 e38 e39 e40 e41 e42 e43 e44 e45 e46 e47 e48 e49 e50 e51 e52 e53 e54 e55 e56 e57 e58 e59 e60 e61 e62 e63 e64 e65 e66 e67 e68 e69 e70 e130 v0 f32 f33 f34) 0 0 := by
    have h1 := h110 f33 f34 (nI 1) hi
    have h0 := h110 f33 f34 (nI 0) hi
    rw [km_u80]
    revert h1 h0
    generalize ku_M_madeIn rt xt (2 * (15 + 1) + (34 * 15 + 1 + m)) = K
    intro h1 h0
    refine And.intro (fun h9 => absurd h9 (by decide)) (fun _ => ?_)
    refine Exists.intro 0 (And.intro rfl (And.intro (by decide) ?_))
    refine And.intro (fun _ => ?_) (fun _ => ?_)
    · exact h1
    · exact h0
  rw [km_u71]
  revert h80
  generalize ku_M_madeIn rt xt (2 * (15 + 1) + (34 * 15 + 1 + m) + 1) = K
  intro h80
  refine And.intro (fun h9 => absurd h9 (by decide)) (fun _ => ?_)
  exact h80
set_option maxRecDepth 100000 in
set_option maxHeartbeats 1000000 in
theorem km_39 (rt : Option wq_V → wq_W → Prop) (xt : Nat → wq_W → Prop) {e0 e1 e2 e3 e4 e5 e6 e7 e8 e9 e10 e11 e12 e13 e14 e15 e16 e17 e18 e19 e20 e21 e22 e23 e24 e25 e26 e27 e28 e29 e30 e31 e32 e33 e34 e35 e36 e37 e38 e39 e40 e41 e42 e43 e44 e45 e46 e47 e48 e49 e50 e51 e52 e53 e54 e55 e56 e57 e58 e59 e60 e61 e62 e63 e64 e65 e66 e67 e68 e69 e70 e130 : wq_E} {v0 : wq_V} {a z : Int32} {jz : Nat} (hz : z = nI jz) (hjz : jz < 4) {ja : Nat} (ha : a = nI ja) (hj : ja < 16) (hr : ∀ f32 f33 f34, rt (some (.inl (.int 0))) (km_W e0 e1 e2 e3 e4 e5 e6 e7 e8 e9 e10 e11 e12 e13 e14 e15 e16 e17 e18 e19 e20 e21 e22 e23 e24 e25 e26 e27 e28 e29 e30 e31 e32 e33 e34 e35 e36 e37 e38 e39 e40 e41 e42 e43 e44 e45 e46 e47 e48 e49 e50 e51 e52 e53 e54 e55 e56 e57 e58 e59 e60 e61 e62 e63 e64 e65 e66 e67 e68 e69 e70 e130 v0 f32 f33 f34)) (m : Nat) : ∀ (d i : Nat) (f32 f33 f34 : Nat → Int32), i + d = 16 → (∀ q, q < i → f32 q < 0) → (∀ q, f34 q = 0) → ku_M_madeIn rt xt (d + 1 + (545 + m)) 39 [(3, .inl (.int (nI i))), (0, .inl (.ref 71)), (1, .inl (.int a)), (2, .inl (.int z))] [] (km_W e0 e1 e2 e3 e4 e5 e6 e7 e8 e9 e10 e11 e12 e13 e14 e15 e16 e17 e18 e19 e20 e21 e22 e23 e24 e25 e26 e27 e28 e29 e30 e31 e32 e33 e34 e35 e36 e37 e38 e39 e40 e41 e42 e43 e44 e45 e46 e47 e48 e49 e50 e51 e52 e53 e54 e55 e56 e57 e58 e59 e60 e61 e62 e63 e64 e65 e66 e67 e68 e69 e70 e130 v0 f32 f33 f34) 0 0 := by
  intro d
  induction d with
  | zero =>
    intro i f32 f33 f34 hd hn hi
    obtain rfl : i = 16 := by omega
    have h70 := km_70 rt xt hn hz hjz ha hj (hr f32) m f33 f34 hi
    rw [show 0 + 1 + (545 + m) = (545 + m) + 1 by omega, km_u39]
    revert h70
    generalize ku_M_madeIn rt xt (545 + m) = K
    intro h70
    refine And.intro (fun _ => ?_) (fun h9 => absurd (by decide) h9)
    exact h70
  | succ d ih =>
    intro i f32 f33 f34 hd hn hi
    have ih1 := fun g32 g33 hg => ih (i + 1) g32 g33 f34 (by omega) hg hi
    rw [show d + 1 + 1 + (545 + m) = (d + 1 + (545 + m)) + 1 by omega, km_u39]
    revert ih1
    generalize ku_M_madeIn rt xt (d + 1 + (545 + m)) = K
    intro ih1
    refine And.intro (fun h9 => absurd h9 (nI_ge (by omega) (by omega))) (fun _ => ?_)
    refine Exists.intro i (And.intro rfl (And.intro (by omega) ?_))
    refine And.intro (fun _ => ?_) (fun h9 => absurd (by decide) h9)
    refine Exists.intro i (And.intro rfl (And.intro (by omega) ?_))
    intro v hv
    rw [kl_add] at hv
    subst hv
    refine ih1 (upd f32 i (-1)) _ (fun q hq => ?_)
    by_cases e : q = i
    · rw [show upd f32 i (-1) q = -1 from if_pos e]
      decide
    · rw [show upd f32 i (-1) q = f32 q from if_neg e]
      exact hn q (by omega)
set_option maxRecDepth 100000 in
set_option maxHeartbeats 1000000 in
theorem kb_all (k : Option wq_V → wq_W → Prop) (x : Nat → wq_W → Prop) {a z : Int32} {ja : Nat} (ha : a = nI ja) (hj : ja < 16) (h : k (some (.inl (.int (nI 0)))) kw_w0) : ks_O_isMadeIn [.inl (.ref 28), .inl (.int a), .inl (.int z)] kw_w0 k x := by
  dsimp only [ks_O_isMadeIn, wq_sp]
  have h17 : ∀ m3, ku_O_isMadeIn k x 80 17 [(5, .inl (.int (nI 0))), (4, .inl (.int (nI 0))), (3, .inl (.int m3)), (0, .inl (.ref 28)), (1, .inl (.int a)), (2, .inl (.int z))] [] kw_w0 0 0 := by
    intro m3
    have h34 := kb_34 k x (z := z) (m3 := m3) ha hj h 61 16 0 rfl
    rw [show (80 : Nat) = (16 + 2 + 61) + 1 from rfl, kb_u17]
    revert h34
    generalize ku_O_isMadeIn k x (16 + 2 + 61) = K
    intro h34
    refine Exists.intro ja (And.intro ha (And.intro hj ?_))
    refine And.intro (fun h9 => absurd h9 (by dsimp only; decide)) (fun _ => ?_)
    exact h34
  revert h17
  generalize ku_O_isMadeIn k x 80 = K
  intro h17
  refine Exists.intro ja (And.intro ha (And.intro hj ?_))
  exact h17 _
