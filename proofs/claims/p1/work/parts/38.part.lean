theorem kl_u1 (k : Nat) : (nI 1).toInt64 = (upd (fun _ => (0 : Int32)) k (0 + nI 1) k).toInt64 := by
  rw [show upd (fun _ => (0 : Int32)) k (0 + nI 1) k = 0 + nI 1 from if_pos rfl]
  decide
theorem kl_h0 : ∀ j, j < 16 → ¬ (((0 : Int32) >>> (nI j &&& 31)) &&& nI 1 = nI 1) := by decide
theorem kl_hs {x : Int32} (h0 : 0 ≤ x.toInt) (h1 : x.toInt < 16) : ¬ (((0 : Int32) >>> (x &&& 31)) &&& nI 1 = nI 1) := by
  have e := kl_h0 x.toInt.toNat (by omega)
  rw [← kl_a h0] at e
  exact e
theorem kl_f5 {a : Int32} (ha : 0 ≤ a.toInt) : nI 5 * a + 0 = nI (5 * a.toInt.toNat) := by
  have e1 := kl_a ha
  have e3 : nI 5 * nI a.toInt.toNat + 0 = nI (5 * a.toInt.toNat) := by
    unfold nI
    rw [Int32.ofNat_mul, Int32.add_zero]
  rw [← e1] at e3
  exact e3
set_option maxRecDepth 100000 in
set_option maxHeartbeats 4000000 in
theorem kl_op_822 (xs : Nat → Int32) (K : Nat → wq_T) (hK : ∀ (L : wq_L) (w : wq_W) (n1 n2 : Nat), wq_g L 0 = some (.inl (.ref 100000)) → wq_g L 4 = some (.inl (.int (nI 8))) → Nat.ble n1 600002 = true → Nat.ble n2 7302231 = true → K 23 L [] w n1 n2) : kt_W_law_822 8 xs K kw_L0 [] kw_w0 207 4018 := by
  have hR := @kr_all
  have hA := @ka_all
  delta kt_W_law_822
  delta ks_M_part
  delta kt_M_part_0
  delta kt_M_part_45
  delta kt_M_part_46
  delta ks_W_part
  delta kt_W_part_0
  delta ks_B_part
  delta kt_B_part_0
  delta kt_B_part_26
  delta kt_B_part_27
  delta kt_B_part_56
  delta kt_B_part_57
  delta kt_B_part_77
  delta kt_B_part_78
  revert hR
  generalize ks_M_reaches = R
  intro hR
  revert hA
  generalize ks_O_addPart = A
  intro hA
  repeat' (first
      | refine hR _ _ (jb := (xs 1).toInt.toNat) (kl_a (by clear hK hR hA; simp only [Int32.lt_iff_toInt_lt, Int32.le_iff_toInt_le, ← Int32.toInt_inj, Int32.not_lt, Int32.not_le, kl_c] at *; omega)) (by clear hK hR hA; simp only [Int32.lt_iff_toInt_lt, Int32.le_iff_toInt_le, ← Int32.toInt_inj, Int32.not_lt, Int32.not_le, kl_c] at *; omega) (fun h f => ?_) (fun h f => ?_)
      | refine hA _ _ (ja := (xs 1).toInt.toNat) (jb := (xs 2).toInt.toNat) (kl_a (by clear hK hR hA; simp only [Int32.lt_iff_toInt_lt, Int32.le_iff_toInt_le, ← Int32.toInt_inj, Int32.not_lt, Int32.not_le, kl_c] at *; omega)) (by clear hK hR hA; simp only [Int32.lt_iff_toInt_lt, Int32.le_iff_toInt_le, ← Int32.toInt_inj, Int32.not_lt, Int32.not_le, kl_c] at *; omega) (kl_a (by clear hK hR hA; simp only [Int32.lt_iff_toInt_lt, Int32.le_iff_toInt_le, ← Int32.toInt_inj, Int32.not_lt, Int32.not_le, kl_c] at *; omega)) (by clear hK hR hA; simp only [Int32.lt_iff_toInt_lt, Int32.le_iff_toInt_le, ← Int32.toInt_inj, Int32.not_lt, Int32.not_le, kl_c] at *; omega) (fun f31 f32 f33 g => ?_)
      | exact hK _ _ _ _ rfl rfl rfl rfl
      | refine And.intro (Or.inl rfl) ?_
      | refine And.intro (Or.inr rfl) ?_
      | (refine And.intro (fun h => ?_) (fun h => ?_) <;> first | exact absurd h (by decide) | exact absurd rfl h | exact absurd (kl_u1 _) h | exact absurd h (kl_hs (x := xs 1) (by clear hK hR hA; simp only [Int32.lt_iff_toInt_lt, Int32.le_iff_toInt_le, ← Int32.toInt_inj, Int32.not_lt, Int32.not_le, kl_c] at *; omega) (by clear hK hR hA; simp only [Int32.lt_iff_toInt_lt, Int32.le_iff_toInt_le, ← Int32.toInt_inj, Int32.not_lt, Int32.not_le, kl_c] at *; omega)) | (exfalso; clear hK hR hA; simp only [Int32.lt_iff_toInt_lt, Int32.le_iff_toInt_le, ← Int32.toInt_inj, Int32.not_lt, Int32.not_le, kl_c] at *; omega) | skip)
      | refine Exists.intro 0 (And.intro (by decide) (And.intro (by decide) ?_))
      | refine Exists.intro 1 (And.intro (by decide) (And.intro (by decide) ?_))
      | refine Exists.intro 2 (And.intro (by decide) (And.intro (by decide) ?_))
      | refine Exists.intro 3 (And.intro (by decide) (And.intro (by decide) ?_))
      | refine Exists.intro 4 (And.intro (by decide) (And.intro (by decide) ?_))
      | refine Exists.intro 5 (And.intro (by decide) (And.intro (by decide) ?_))
      | refine Exists.intro 6 (And.intro (by decide) (And.intro (by decide) ?_))
      | refine Exists.intro 7 (And.intro (by decide) (And.intro (by decide) ?_))
      | refine Exists.intro (xs 1).toInt.toNat (And.intro (kl_a (by clear hK hR hA; simp only [Int32.lt_iff_toInt_lt, Int32.le_iff_toInt_le, ← Int32.toInt_inj, Int32.not_lt, Int32.not_le, kl_c] at *; omega)) (And.intro (by clear hK hR hA; simp only [Int32.lt_iff_toInt_lt, Int32.le_iff_toInt_le, ← Int32.toInt_inj, Int32.not_lt, Int32.not_le, kl_c] at *; omega) ?_))
      | refine Exists.intro (xs 2).toInt.toNat (And.intro (kl_a (by clear hK hR hA; simp only [Int32.lt_iff_toInt_lt, Int32.le_iff_toInt_le, ← Int32.toInt_inj, Int32.not_lt, Int32.not_le, kl_c] at *; omega)) (And.intro (by clear hK hR hA; simp only [Int32.lt_iff_toInt_lt, Int32.le_iff_toInt_le, ← Int32.toInt_inj, Int32.not_lt, Int32.not_le, kl_c] at *; omega) ?_))
      | refine Exists.intro (5 * (xs 1).toInt.toNat) (And.intro (kl_f5 (by clear hK hR hA; simp only [Int32.lt_iff_toInt_lt, Int32.le_iff_toInt_le, ← Int32.toInt_inj, Int32.not_lt, Int32.not_le, kl_c] at *; omega)) (And.intro (by clear hK hR hA; simp only [Int32.lt_iff_toInt_lt, Int32.le_iff_toInt_le, ← Int32.toInt_inj, Int32.not_lt, Int32.not_le, kl_c] at *; omega) ?_))
      | refine And.intro (show _ < _ by clear hK hR hA; first | decide | (simp only [Int32.lt_iff_toInt_lt, Int32.le_iff_toInt_le, ← Int32.toInt_inj, Int32.not_lt, Int32.not_le, kl_c] at *; omega)) ?_
      | (intro v hv; rw [kl_add] at hv; simp only [Nat.reduceAdd] at hv; subst hv))
