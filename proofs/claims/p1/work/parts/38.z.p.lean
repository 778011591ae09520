theorem km_all (rt : Option wq_V → wq_W → Prop) (xt : Nat → wq_W → Prop) {e0 e1 e2 e3 e4 e5 e6 e7 e8 e9 e10 e11 e12 e13 e14 e15 e16 e17 e18 e19 e20 e21 e22 e23 e24 e25 e26 e27 e28 e29 e30 e31 e32 e33 e34 e35 e36 e37 e38 e39 e40 e41 e42 e43 e44 e45 e46 e47 e48 e49 e50 e51 e52 e53 e54 e55 e56 e57 e58 e59 e60 e61 e62 e63 e64 e65 e66 e67 e68 e69 e70 e130 : wq_E} {v0 : wq_V} {a z : Int32} {jz : Nat} (hz : z = nI jz) (hjz : jz < 4) {ja : Nat} (ha : a = nI ja) (hj : ja < 16) (hr : ∀ f32 f33 f34, rt (some (.inl (.int 0))) (km_W e0 e1 e2 e3 e4 e5 e6 e7 e8 e9 e10 e11 e12 e13 e14 e15 e16 e17 e18 e19 e20 e21 e22 e23 e24 e25 e26 e27 e28 e29 e30 e31 e32 e33 e34 e35 e36 e37 e38 e39 e40 e41 e42 e43 e44 e45 e46 e47 e48 e49 e50 e51 e52 e53 e54 e55 e56 e57 e58 e59 e60 e61 e62 e63 e64 e65 e66 e67 e68 e69 e70 e130 v0 f32 f33 f34)) (f32 f33 f34 : Nat → Int32) (hi : ∀ q, f34 q = 0) : ku_M_madeIn rt xt 700 39 [(3, .inl (.int (nI 0))), (0, .inl (.ref 71)), (1, .inl (.int a)), (2, .inl (.int z))] [] (km_W e0 e1 e2 e3 e4 e5 e6 e7 e8 e9 e10 e11 e12 e13 e14 e15 e16 e17 e18 e19 e20 e21 e22 e23 e24 e25 e26 e27 e28 e29 e30 e31 e32 e33 e34 e35 e36 e37 e38 e39 e40 e41 e42 e43 e44 e45 e46 e47 e48 e49 e50 e51 e52 e53 e54 e55 e56 e57 e58 e59 e60 e61 e62 e63 e64 e65 e66 e67 e68 e69 e70 e130 v0 f32 f33 f34) 0 0 := km_39 rt xt hz hjz ha hj hr 138 16 0 f32 f33 f34 rfl (fun q hq => absurd hq (by omega)) hi
set_option maxRecDepth 100000 in
set_option maxHeartbeats 4000000 in
theorem kl_op_1022 (xs : Nat → Int32) (K : Nat → wq_T) (hK : ∀ (L : wq_L) (w : wq_W) (n1 n2 : Nat), wq_g L 0 = some (.inl (.ref 100000)) → wq_g L 4 = some (.inl (.int (nI 8))) → Nat.ble n1 600002 = true → Nat.ble n2 7302231 = true → K 23 L [] w n1 n2) : kt_W_law_1022 8 xs K kw_L0 [] kw_w0 207 4018 := by
  have hM := @km_all
  have hA := @kb_all
  delta kt_W_law_1022
  delta ks_M_madeIn
  delta ks_W_madeIn
  delta kt_W_madeIn_0
  delta ks_B_madeIn
  delta kt_B_madeIn_0
  delta kt_B_madeIn_19
  delta kt_B_madeIn_20
  revert hM
  generalize ku_M_madeIn = U
  intro hM
  revert hA
  generalize ks_O_isMadeIn = A
  intro hA
  repeat' (first
      | refine hM _ _ (jz := (xs 2).toInt.toNat) (kl_a (by clear hK hM hA; simp only [Int32.lt_iff_toInt_lt, Int32.le_iff_toInt_le, ← Int32.toInt_inj, Int32.not_lt, Int32.not_le, kl_c] at *; omega)) (by clear hK hM hA; simp only [Int32.lt_iff_toInt_lt, Int32.le_iff_toInt_le, ← Int32.toInt_inj, Int32.not_lt, Int32.not_le, kl_c] at *; omega) (ja := (xs 1).toInt.toNat) (kl_a (by clear hK hM hA; simp only [Int32.lt_iff_toInt_lt, Int32.le_iff_toInt_le, ← Int32.toInt_inj, Int32.not_lt, Int32.not_le, kl_c] at *; omega)) (by clear hK hM hA; simp only [Int32.lt_iff_toInt_lt, Int32.le_iff_toInt_le, ← Int32.toInt_inj, Int32.not_lt, Int32.not_le, kl_c] at *; omega) (fun f32 f33 f34 => ?_) _ _ _ (fun q => rfl)
      | refine hA _ _ (ja := (xs 1).toInt.toNat) (kl_a (by clear hK hM hA; simp only [Int32.lt_iff_toInt_lt, Int32.le_iff_toInt_le, ← Int32.toInt_inj, Int32.not_lt, Int32.not_le, kl_c] at *; omega)) (by clear hK hM hA; simp only [Int32.lt_iff_toInt_lt, Int32.le_iff_toInt_le, ← Int32.toInt_inj, Int32.not_lt, Int32.not_le, kl_c] at *; omega) ?_
      | exact hK _ _ _ _ rfl rfl rfl rfl
      | refine And.intro (Or.inl rfl) ?_
      | refine And.intro (Or.inr rfl) ?_
      | (refine And.intro (fun h => ?_) (fun h => ?_) <;> first | exact absurd h (by decide) | exact absurd rfl h | (exfalso; clear hK hM hA; simp only [Int32.lt_iff_toInt_lt, Int32.le_iff_toInt_le, ← Int32.toInt_inj, Int32.not_lt, Int32.not_le, kl_c] at *; omega) | skip)
      | refine Exists.intro 0 (And.intro (by decide) (And.intro (by decide) ?_))
      | refine Exists.intro 1 (And.intro (by decide) (And.intro (by decide) ?_))
      | refine Exists.intro 2 (And.intro (by decide) (And.intro (by decide) ?_))
      | refine Exists.intro 3 (And.intro (by decide) (And.intro (by decide) ?_))
      | refine Exists.intro 4 (And.intro (by decide) (And.intro (by decide) ?_))
      | refine Exists.intro 5 (And.intro (by decide) (And.intro (by decide) ?_))
      | refine Exists.intro 6 (And.intro (by decide) (And.intro (by decide) ?_))
      | refine Exists.intro 7 (And.intro (by decide) (And.intro (by decide) ?_))
      | refine Exists.intro (xs 1).toInt.toNat (And.intro (kl_a (by clear hK hM hA; simp only [Int32.lt_iff_toInt_lt, Int32.le_iff_toInt_le, ← Int32.toInt_inj, Int32.not_lt, Int32.not_le, kl_c] at *; omega)) (And.intro (by clear hK hM hA; simp only [Int32.lt_iff_toInt_lt, Int32.le_iff_toInt_le, ← Int32.toInt_inj, Int32.not_lt, Int32.not_le, kl_c] at *; omega) ?_))
      | refine Exists.intro (xs 2).toInt.toNat (And.intro (kl_a (by clear hK hM hA; simp only [Int32.lt_iff_toInt_lt, Int32.le_iff_toInt_le, ← Int32.toInt_inj, Int32.not_lt, Int32.not_le, kl_c] at *; omega)) (And.intro (by clear hK hM hA; simp only [Int32.lt_iff_toInt_lt, Int32.le_iff_toInt_le, ← Int32.toInt_inj, Int32.not_lt, Int32.not_le, kl_c] at *; omega) ?_))
      | refine And.intro (show _ < _ by clear hK hM hA; first | decide | (simp only [Int32.lt_iff_toInt_lt, Int32.le_iff_toInt_le, ← Int32.toInt_inj, Int32.not_lt, Int32.not_le, kl_c] at *; omega)) ?_
      | (intro v hv; rw [kl_add] at hv; simp only [Nat.reduceAdd] at hv; subst hv))
