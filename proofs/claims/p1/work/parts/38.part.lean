set_option maxRecDepth 100000 in
set_option maxHeartbeats 1000000 in
theorem kl_op_822 (xs : Nat → Int32) (K : Nat → wq_T) (hK : ∀ (L : wq_L) (w : wq_W) (n1 n2 : Nat), wq_g L 0 = some (.inl (.ref 100000)) → wq_g L 4 = some (.inl (.int (nI 8))) → Nat.ble n1 600002 = true → Nat.ble n2 7302231 = true → K 23 L [] w n1 n2) : kt_W_law_822 8 xs K kw_L0 [] kw_w0 207 4018 := by
  have hR := @kr_all
  delta kt_W_law_822
  delta ks_M_part
  delta kt_M_part_0
  delta kt_M_part_45
  delta kt_M_part_46
  revert hR
  generalize ks_M_reaches = R
  intro hR
  repeat' (first
      | refine hR _ _ (jb := (xs 1).toInt.toNat) (kl_a (by clear hK hR; simp only [Int32.lt_iff_toInt_lt, Int32.le_iff_toInt_le, ← Int32.toInt_inj, Int32.not_lt, Int32.not_le, kl_c] at *; omega)) (by clear hK hR; simp only [Int32.lt_iff_toInt_lt, Int32.le_iff_toInt_le, ← Int32.toInt_inj, Int32.not_lt, Int32.not_le, kl_c] at *; omega) (fun h f => ?_) (fun h f => ?_)
      | exact hK _ _ _ _ rfl rfl rfl rfl
      | refine And.intro (Or.inl rfl) ?_
      | refine And.intro (Or.inr rfl) ?_
      | (refine And.intro (fun h => ?_) (fun h => ?_) <;> first | exact absurd h (by decide) | exact absurd rfl h | (exfalso; clear hK hR; simp only [Int32.lt_iff_toInt_lt, Int32.le_iff_toInt_le, ← Int32.toInt_inj, Int32.not_lt, Int32.not_le, kl_c] at *; omega) | skip)
      | refine Exists.intro 0 (And.intro (by decide) (And.intro (by decide) ?_))
      | refine Exists.intro 1 (And.intro (by decide) (And.intro (by decide) ?_))
      | refine Exists.intro 2 (And.intro (by decide) (And.intro (by decide) ?_))
      | refine Exists.intro 3 (And.intro (by decide) (And.intro (by decide) ?_))
      | refine Exists.intro 4 (And.intro (by decide) (And.intro (by decide) ?_))
      | refine Exists.intro 5 (And.intro (by decide) (And.intro (by decide) ?_))
      | refine Exists.intro 6 (And.intro (by decide) (And.intro (by decide) ?_))
      | refine Exists.intro 7 (And.intro (by decide) (And.intro (by decide) ?_))
      | refine Exists.intro (xs 1).toInt.toNat (And.intro (kl_a (by clear hK hR; simp only [Int32.lt_iff_toInt_lt, Int32.le_iff_toInt_le, ← Int32.toInt_inj, Int32.not_lt, Int32.not_le, kl_c] at *; omega)) (And.intro (by clear hK hR; simp only [Int32.lt_iff_toInt_lt, Int32.le_iff_toInt_le, ← Int32.toInt_inj, Int32.not_lt, Int32.not_le, kl_c] at *; omega) ?_))
      | refine Exists.intro (xs 2).toInt.toNat (And.intro (kl_a (by clear hK hR; simp only [Int32.lt_iff_toInt_lt, Int32.le_iff_toInt_le, ← Int32.toInt_inj, Int32.not_lt, Int32.not_le, kl_c] at *; omega)) (And.intro (by clear hK hR; simp only [Int32.lt_iff_toInt_lt, Int32.le_iff_toInt_le, ← Int32.toInt_inj, Int32.not_lt, Int32.not_le, kl_c] at *; omega) ?_))
      | refine And.intro (show _ < _ by clear hK hR; first | decide | (simp only [Int32.lt_iff_toInt_lt, Int32.le_iff_toInt_le, ← Int32.toInt_inj, Int32.not_lt, Int32.not_le, kl_c] at *; omega)) ?_
      | (intro v hv; rw [kl_add] at hv; simp only [Nat.reduceAdd] at hv; subst hv))
