theorem kl_c : (nI 0).toInt = 0 ∧ (nI 1).toInt = 1 ∧ (nI 2).toInt = 2 ∧ (nI 3).toInt = 3 ∧ (nI 4).toInt = 4 ∧ (nI 5).toInt = 5 ∧ (nI 6).toInt = 6 ∧ (nI 7).toInt = 7 ∧ (nI 8).toInt = 8 ∧ (nI 9).toInt = 9 ∧ (nI 10).toInt = 10 ∧ (nI 11).toInt = 11 ∧ (nI 12).toInt = 12 ∧ (nI 13).toInt = 13 ∧ (nI 14).toInt = 14 ∧ (nI 15).toInt = 15 ∧ (nI 16).toInt = 16 ∧ (nI 23).toInt = 23 ∧ (nI 24).toInt = 24 ∧ (nI 47).toInt = 47 ∧ (nI 48).toInt = 48 ∧ (nI 63).toInt = 63 ∧ (nI 64).toInt = 64 ∧ (nI 255).toInt = 255 ∧ (nI 256).toInt = 256 ∧ (nI 1000).toInt = 1000 ∧ (nI 1439).toInt = 1439 ∧ (nI 1440).toInt = 1440 ∧ (nI 9999).toInt = 9999 ∧ (nI 10000).toInt = 10000 ∧ (-1 : Int32).toInt = -1 ∧ (0 : Int32).toInt = 0 ∧ (1000000 : Int32).toInt = 1000000 := by decide
theorem kl_a {x : Int32} (h : 0 ≤ x.toInt) : x = nI x.toInt.toNat := by
  apply Int32.toInt_inj.mp
  have h1 := Int32.toInt_lt x
  rw [nI_toInt (by omega)]
  omega
theorem kl_add (a b : Nat) : nI a + nI b = nI (a + b) := by unfold nI; exact (Int32.ofNat_add a b).symm
set_option maxRecDepth 100000 in
set_option maxHeartbeats 1000000 in
theorem kl_op_152 (xs : Nat → Int32) (K : Nat → wq_T) (hK : ∀ (L : wq_L) (w : wq_W) (n1 n2 : Nat), wq_g L 0 = some (.inl (.ref 100000)) → wq_g L 4 = some (.inl (.int (nI 8))) → Nat.ble n1 600002 = true → Nat.ble n2 7302231 = true → K 23 L [] w n1 n2) : kt_W_law_152 8 xs K kw_L0 [] kw_w0 207 4018 := by
  repeat' (first
      | exact hK _ _ _ _ rfl rfl rfl rfl
      | refine And.intro (Or.inl rfl) ?_
      | refine And.intro (Or.inr rfl) ?_
      | (refine And.intro (fun h => ?_) (fun h => ?_) <;> first | exact absurd h (by decide) | exact absurd rfl h | (exfalso; clear hK; simp only [Int32.lt_iff_toInt_lt, Int32.le_iff_toInt_le, ← Int32.toInt_inj, Int32.not_lt, Int32.not_le, kl_c] at *; omega) | skip)
      | refine Exists.intro 0 (And.intro (by decide) (And.intro (by decide) ?_))
      | refine Exists.intro 1 (And.intro (by decide) (And.intro (by decide) ?_))
      | refine Exists.intro 2 (And.intro (by decide) (And.intro (by decide) ?_))
      | refine Exists.intro 3 (And.intro (by decide) (And.intro (by decide) ?_))
      | refine Exists.intro 4 (And.intro (by decide) (And.intro (by decide) ?_))
      | refine Exists.intro 5 (And.intro (by decide) (And.intro (by decide) ?_))
      | refine Exists.intro 6 (And.intro (by decide) (And.intro (by decide) ?_))
      | refine Exists.intro 7 (And.intro (by decide) (And.intro (by decide) ?_))
      | refine And.intro (show _ < _ by clear hK; first | decide | (simp only [Int32.lt_iff_toInt_lt, Int32.le_iff_toInt_le, ← Int32.toInt_inj, Int32.not_lt, Int32.not_le, kl_c] at *; omega)) ?_
      | (intro v hv; rw [kl_add] at hv; simp only [Nat.reduceAdd] at hv; subst hv))
set_option maxRecDepth 100000 in
set_option maxHeartbeats 1000000 in
theorem kl_op_208 (xs : Nat → Int32) (K : Nat → wq_T) (hK : ∀ (L : wq_L) (w : wq_W) (n1 n2 : Nat), wq_g L 0 = some (.inl (.ref 100000)) → wq_g L 4 = some (.inl (.int (nI 8))) → Nat.ble n1 600002 = true → Nat.ble n2 7302231 = true → K 23 L [] w n1 n2) : kt_W_law_208 8 xs K kw_L0 [] kw_w0 207 4018 := by
  repeat' (first
      | exact hK _ _ _ _ rfl rfl rfl rfl
      | refine And.intro (Or.inl rfl) ?_
      | refine And.intro (Or.inr rfl) ?_
      | (refine And.intro (fun h => ?_) (fun h => ?_) <;> first | exact absurd h (by decide) | exact absurd rfl h | (exfalso; clear hK; simp only [Int32.lt_iff_toInt_lt, Int32.le_iff_toInt_le, ← Int32.toInt_inj, Int32.not_lt, Int32.not_le, kl_c] at *; omega) | skip)
      | refine Exists.intro 0 (And.intro (by decide) (And.intro (by decide) ?_))
      | refine Exists.intro 1 (And.intro (by decide) (And.intro (by decide) ?_))
      | refine Exists.intro 2 (And.intro (by decide) (And.intro (by decide) ?_))
      | refine Exists.intro 3 (And.intro (by decide) (And.intro (by decide) ?_))
      | refine Exists.intro 4 (And.intro (by decide) (And.intro (by decide) ?_))
      | refine Exists.intro 5 (And.intro (by decide) (And.intro (by decide) ?_))
      | refine Exists.intro 6 (And.intro (by decide) (And.intro (by decide) ?_))
      | refine Exists.intro 7 (And.intro (by decide) (And.intro (by decide) ?_))
      | refine And.intro (show _ < _ by clear hK; first | decide | (simp only [Int32.lt_iff_toInt_lt, Int32.le_iff_toInt_le, ← Int32.toInt_inj, Int32.not_lt, Int32.not_le, kl_c] at *; omega)) ?_
      | (intro v hv; rw [kl_add] at hv; simp only [Nat.reduceAdd] at hv; subst hv))
set_option maxRecDepth 100000 in
set_option maxHeartbeats 1000000 in
theorem kl_op_436 (xs : Nat → Int32) (K : Nat → wq_T) (hK : ∀ (L : wq_L) (w : wq_W) (n1 n2 : Nat), wq_g L 0 = some (.inl (.ref 100000)) → wq_g L 4 = some (.inl (.int (nI 8))) → Nat.ble n1 600002 = true → Nat.ble n2 7302231 = true → K 23 L [] w n1 n2) : kt_W_law_436 8 xs K kw_L0 [] kw_w0 207 4018 := by
  repeat' (first
      | exact hK _ _ _ _ rfl rfl rfl rfl
      | refine And.intro (Or.inl rfl) ?_
      | refine And.intro (Or.inr rfl) ?_
      | (refine And.intro (fun h => ?_) (fun h => ?_) <;> first | exact absurd h (by decide) | exact absurd rfl h | (exfalso; clear hK; simp only [Int32.lt_iff_toInt_lt, Int32.le_iff_toInt_le, ← Int32.toInt_inj, Int32.not_lt, Int32.not_le, kl_c] at *; omega) | skip)
      | refine Exists.intro 0 (And.intro (by decide) (And.intro (by decide) ?_))
      | refine Exists.intro 1 (And.intro (by decide) (And.intro (by decide) ?_))
      | refine Exists.intro 2 (And.intro (by decide) (And.intro (by decide) ?_))
      | refine Exists.intro 3 (And.intro (by decide) (And.intro (by decide) ?_))
      | refine Exists.intro 4 (And.intro (by decide) (And.intro (by decide) ?_))
      | refine Exists.intro 5 (And.intro (by decide) (And.intro (by decide) ?_))
      | refine Exists.intro 6 (And.intro (by decide) (And.intro (by decide) ?_))
      | refine Exists.intro 7 (And.intro (by decide) (And.intro (by decide) ?_))
      | refine And.intro (show _ < _ by clear hK; first | decide | (simp only [Int32.lt_iff_toInt_lt, Int32.le_iff_toInt_le, ← Int32.toInt_inj, Int32.not_lt, Int32.not_le, kl_c] at *; omega)) ?_
      | (intro v hv; rw [kl_add] at hv; simp only [Nat.reduceAdd] at hv; subst hv))
set_option maxRecDepth 100000 in
set_option maxHeartbeats 1000000 in
theorem kl_op_568 (xs : Nat → Int32) (K : Nat → wq_T) (hK : ∀ (L : wq_L) (w : wq_W) (n1 n2 : Nat), wq_g L 0 = some (.inl (.ref 100000)) → wq_g L 4 = some (.inl (.int (nI 8))) → Nat.ble n1 600002 = true → Nat.ble n2 7302231 = true → K 23 L [] w n1 n2) : kt_W_law_568 8 xs K kw_L0 [] kw_w0 207 4018 := by
  repeat' (first
      | exact hK _ _ _ _ rfl rfl rfl rfl
      | refine And.intro (Or.inl rfl) ?_
      | refine And.intro (Or.inr rfl) ?_
      | (refine And.intro (fun h => ?_) (fun h => ?_) <;> first | exact absurd h (by decide) | exact absurd rfl h | (exfalso; clear hK; simp only [Int32.lt_iff_toInt_lt, Int32.le_iff_toInt_le, ← Int32.toInt_inj, Int32.not_lt, Int32.not_le, kl_c] at *; omega) | skip)
      | refine Exists.intro 0 (And.intro (by decide) (And.intro (by decide) ?_))
      | refine Exists.intro 1 (And.intro (by decide) (And.intro (by decide) ?_))
      | refine Exists.intro 2 (And.intro (by decide) (And.intro (by decide) ?_))
      | refine Exists.intro 3 (And.intro (by decide) (And.intro (by decide) ?_))
      | refine Exists.intro 4 (And.intro (by decide) (And.intro (by decide) ?_))
      | refine Exists.intro 5 (And.intro (by decide) (And.intro (by decide) ?_))
      | refine Exists.intro 6 (And.intro (by decide) (And.intro (by decide) ?_))
      | refine Exists.intro 7 (And.intro (by decide) (And.intro (by decide) ?_))
      | refine And.intro (show _ < _ by clear hK; first | decide | (simp only [Int32.lt_iff_toInt_lt, Int32.le_iff_toInt_le, ← Int32.toInt_inj, Int32.not_lt, Int32.not_le, kl_c] at *; omega)) ?_
      | (intro v hv; rw [kl_add] at hv; simp only [Nat.reduceAdd] at hv; subst hv))
set_option maxRecDepth 100000 in
set_option maxHeartbeats 1000000 in
theorem kl_op_648 (xs : Nat → Int32) (K : Nat → wq_T) (hK : ∀ (L : wq_L) (w : wq_W) (n1 n2 : Nat), wq_g L 0 = some (.inl (.ref 100000)) → wq_g L 4 = some (.inl (.int (nI 8))) → Nat.ble n1 600002 = true → Nat.ble n2 7302231 = true → K 23 L [] w n1 n2) : kt_W_law_648 8 xs K kw_L0 [] kw_w0 207 4018 := by
  repeat' (first
      | exact hK _ _ _ _ rfl rfl rfl rfl
      | refine And.intro (Or.inl rfl) ?_
      | refine And.intro (Or.inr rfl) ?_
      | (refine And.intro (fun h => ?_) (fun h => ?_) <;> first | exact absurd h (by decide) | exact absurd rfl h | (exfalso; clear hK; simp only [Int32.lt_iff_toInt_lt, Int32.le_iff_toInt_le, ← Int32.toInt_inj, Int32.not_lt, Int32.not_le, kl_c] at *; omega) | skip)
      | refine Exists.intro 0 (And.intro (by decide) (And.intro (by decide) ?_))
      | refine Exists.intro 1 (And.intro (by decide) (And.intro (by decide) ?_))
      | refine Exists.intro 2 (And.intro (by decide) (And.intro (by decide) ?_))
      | refine Exists.intro 3 (And.intro (by decide) (And.intro (by decide) ?_))
      | refine Exists.intro 4 (And.intro (by decide) (And.intro (by decide) ?_))
      | refine Exists.intro 5 (And.intro (by decide) (And.intro (by decide) ?_))
      | refine Exists.intro 6 (And.intro (by decide) (And.intro (by decide) ?_))
      | refine Exists.intro 7 (And.intro (by decide) (And.intro (by decide) ?_))
      | refine And.intro (show _ < _ by clear hK; first | decide | (simp only [Int32.lt_iff_toInt_lt, Int32.le_iff_toInt_le, ← Int32.toInt_inj, Int32.not_lt, Int32.not_le, kl_c] at *; omega)) ?_
      | (intro v hv; rw [kl_add] at hv; simp only [Nat.reduceAdd] at hv; subst hv))
set_option maxRecDepth 100000 in
set_option maxHeartbeats 1000000 in
theorem kl_op_766 (xs : Nat → Int32) (K : Nat → wq_T) (hK : ∀ (L : wq_L) (w : wq_W) (n1 n2 : Nat), wq_g L 0 = some (.inl (.ref 100000)) → wq_g L 4 = some (.inl (.int (nI 8))) → Nat.ble n1 600002 = true → Nat.ble n2 7302231 = true → K 23 L [] w n1 n2) : kt_W_law_766 8 xs K kw_L0 [] kw_w0 207 4018 := by
  repeat' (first
      | exact hK _ _ _ _ rfl rfl rfl rfl
      | refine And.intro (Or.inl rfl) ?_
      | refine And.intro (Or.inr rfl) ?_
      | (refine And.intro (fun h => ?_) (fun h => ?_) <;> first | exact absurd h (by decide) | exact absurd rfl h | (exfalso; clear hK; simp only [Int32.lt_iff_toInt_lt, Int32.le_iff_toInt_le, ← Int32.toInt_inj, Int32.not_lt, Int32.not_le, kl_c] at *; omega) | skip)
      | refine Exists.intro 0 (And.intro (by decide) (And.intro (by decide) ?_))
      | refine Exists.intro 1 (And.intro (by decide) (And.intro (by decide) ?_))
      | refine Exists.intro 2 (And.intro (by decide) (And.intro (by decide) ?_))
      | refine Exists.intro 3 (And.intro (by decide) (And.intro (by decide) ?_))
      | refine Exists.intro 4 (And.intro (by decide) (And.intro (by decide) ?_))
      | refine Exists.intro 5 (And.intro (by decide) (And.intro (by decide) ?_))
      | refine Exists.intro 6 (And.intro (by decide) (And.intro (by decide) ?_))
      | refine Exists.intro 7 (And.intro (by decide) (And.intro (by decide) ?_))
      | refine And.intro (show _ < _ by clear hK; first | decide | (simp only [Int32.lt_iff_toInt_lt, Int32.le_iff_toInt_le, ← Int32.toInt_inj, Int32.not_lt, Int32.not_le, kl_c] at *; omega)) ?_
      | (intro v hv; rw [kl_add] at hv; simp only [Nat.reduceAdd] at hv; subst hv))
set_option maxRecDepth 100000 in
set_option maxHeartbeats 1000000 in
theorem kl_op_962 (xs : Nat → Int32) (K : Nat → wq_T) (hK : ∀ (L : wq_L) (w : wq_W) (n1 n2 : Nat), wq_g L 0 = some (.inl (.ref 100000)) → wq_g L 4 = some (.inl (.int (nI 8))) → Nat.ble n1 600002 = true → Nat.ble n2 7302231 = true → K 23 L [] w n1 n2) : kt_W_law_962 8 xs K kw_L0 [] kw_w0 207 4018 := by
  repeat' (first
      | exact hK _ _ _ _ rfl rfl rfl rfl
      | refine And.intro (Or.inl rfl) ?_
      | refine And.intro (Or.inr rfl) ?_
      | (refine And.intro (fun h => ?_) (fun h => ?_) <;> first | exact absurd h (by decide) | exact absurd rfl h | (exfalso; clear hK; simp only [Int32.lt_iff_toInt_lt, Int32.le_iff_toInt_le, ← Int32.toInt_inj, Int32.not_lt, Int32.not_le, kl_c] at *; omega) | skip)
      | refine Exists.intro 0 (And.intro (by decide) (And.intro (by decide) ?_))
      | refine Exists.intro 1 (And.intro (by decide) (And.intro (by decide) ?_))
      | refine Exists.intro 2 (And.intro (by decide) (And.intro (by decide) ?_))
      | refine Exists.intro 3 (And.intro (by decide) (And.intro (by decide) ?_))
      | refine Exists.intro 4 (And.intro (by decide) (And.intro (by decide) ?_))
      | refine Exists.intro 5 (And.intro (by decide) (And.intro (by decide) ?_))
      | refine Exists.intro 6 (And.intro (by decide) (And.intro (by decide) ?_))
      | refine Exists.intro 7 (And.intro (by decide) (And.intro (by decide) ?_))
      | refine And.intro (show _ < _ by clear hK; first | decide | (simp only [Int32.lt_iff_toInt_lt, Int32.le_iff_toInt_le, ← Int32.toInt_inj, Int32.not_lt, Int32.not_le, kl_c] at *; omega)) ?_
      | (intro v hv; rw [kl_add] at hv; simp only [Nat.reduceAdd] at hv; subst hv))
set_option maxRecDepth 100000 in
set_option maxHeartbeats 1000000 in
theorem kl_op_1165 (xs : Nat → Int32) (K : Nat → wq_T) (hK : ∀ (L : wq_L) (w : wq_W) (n1 n2 : Nat), wq_g L 0 = some (.inl (.ref 100000)) → wq_g L 4 = some (.inl (.int (nI 8))) → Nat.ble n1 600002 = true → Nat.ble n2 7302231 = true → K 23 L [] w n1 n2) : kt_W_law_1165 8 xs K kw_L0 [] kw_w0 207 4018 := by
  repeat' (first
      | exact hK _ _ _ _ rfl rfl rfl rfl
      | refine And.intro (Or.inl rfl) ?_
      | refine And.intro (Or.inr rfl) ?_
      | (refine And.intro (fun h => ?_) (fun h => ?_) <;> first | exact absurd h (by decide) | exact absurd rfl h | (exfalso; clear hK; simp only [Int32.lt_iff_toInt_lt, Int32.le_iff_toInt_le, ← Int32.toInt_inj, Int32.not_lt, Int32.not_le, kl_c] at *; omega) | skip)
      | refine Exists.intro 0 (And.intro (by decide) (And.intro (by decide) ?_))
      | refine Exists.intro 1 (And.intro (by decide) (And.intro (by decide) ?_))
      | refine Exists.intro 2 (And.intro (by decide) (And.intro (by decide) ?_))
      | refine Exists.intro 3 (And.intro (by decide) (And.intro (by decide) ?_))
      | refine Exists.intro 4 (And.intro (by decide) (And.intro (by decide) ?_))
      | refine Exists.intro 5 (And.intro (by decide) (And.intro (by decide) ?_))
      | refine Exists.intro 6 (And.intro (by decide) (And.intro (by decide) ?_))
      | refine Exists.intro 7 (And.intro (by decide) (And.intro (by decide) ?_))
      | refine And.intro (show _ < _ by clear hK; first | decide | (simp only [Int32.lt_iff_toInt_lt, Int32.le_iff_toInt_le, ← Int32.toInt_inj, Int32.not_lt, Int32.not_le, kl_c] at *; omega)) ?_
      | (intro v hv; rw [kl_add] at hv; simp only [Nat.reduceAdd] at hv; subst hv))
set_option maxRecDepth 100000 in
set_option maxHeartbeats 1000000 in
theorem kl_op_1313 (xs : Nat → Int32) (K : Nat → wq_T) (hK : ∀ (L : wq_L) (w : wq_W) (n1 n2 : Nat), wq_g L 0 = some (.inl (.ref 100000)) → wq_g L 4 = some (.inl (.int (nI 8))) → Nat.ble n1 600002 = true → Nat.ble n2 7302231 = true → K 23 L [] w n1 n2) : kt_W_law_1313 8 xs K kw_L0 [] kw_w0 207 4018 := by
  repeat' (first
      | exact hK _ _ _ _ rfl rfl rfl rfl
      | refine And.intro (Or.inl rfl) ?_
      | refine And.intro (Or.inr rfl) ?_
      | (refine And.intro (fun h => ?_) (fun h => ?_) <;> first | exact absurd h (by decide) | exact absurd rfl h | (exfalso; clear hK; simp only [Int32.lt_iff_toInt_lt, Int32.le_iff_toInt_le, ← Int32.toInt_inj, Int32.not_lt, Int32.not_le, kl_c] at *; omega) | skip)
      | refine Exists.intro 0 (And.intro (by decide) (And.intro (by decide) ?_))
      | refine Exists.intro 1 (And.intro (by decide) (And.intro (by decide) ?_))
      | refine Exists.intro 2 (And.intro (by decide) (And.intro (by decide) ?_))
      | refine Exists.intro 3 (And.intro (by decide) (And.intro (by decide) ?_))
      | refine Exists.intro 4 (And.intro (by decide) (And.intro (by decide) ?_))
      | refine Exists.intro 5 (And.intro (by decide) (And.intro (by decide) ?_))
      | refine Exists.intro 6 (And.intro (by decide) (And.intro (by decide) ?_))
      | refine Exists.intro 7 (And.intro (by decide) (And.intro (by decide) ?_))
      | refine And.intro (show _ < _ by clear hK; first | decide | (simp only [Int32.lt_iff_toInt_lt, Int32.le_iff_toInt_le, ← Int32.toInt_inj, Int32.not_lt, Int32.not_le, kl_c] at *; omega)) ?_
      | (intro v hv; rw [kl_add] at hv; simp only [Nat.reduceAdd] at hv; subst hv))
set_option maxRecDepth 100000 in
set_option maxHeartbeats 1000000 in
theorem kl_op_1373 (xs : Nat → Int32) (K : Nat → wq_T) (hK : ∀ (L : wq_L) (w : wq_W) (n1 n2 : Nat), wq_g L 0 = some (.inl (.ref 100000)) → wq_g L 4 = some (.inl (.int (nI 8))) → Nat.ble n1 600002 = true → Nat.ble n2 7302231 = true → K 23 L [] w n1 n2) : kt_W_law_1373 8 xs K kw_L0 [] kw_w0 207 4018 := by
  repeat' (first
      | exact hK _ _ _ _ rfl rfl rfl rfl
      | refine And.intro (Or.inl rfl) ?_
      | refine And.intro (Or.inr rfl) ?_
      | (refine And.intro (fun h => ?_) (fun h => ?_) <;> first | exact absurd h (by decide) | exact absurd rfl h | (exfalso; clear hK; simp only [Int32.lt_iff_toInt_lt, Int32.le_iff_toInt_le, ← Int32.toInt_inj, Int32.not_lt, Int32.not_le, kl_c] at *; omega) | skip)
      | refine Exists.intro 0 (And.intro (by decide) (And.intro (by decide) ?_))
      | refine Exists.intro 1 (And.intro (by decide) (And.intro (by decide) ?_))
      | refine Exists.intro 2 (And.intro (by decide) (And.intro (by decide) ?_))
      | refine Exists.intro 3 (And.intro (by decide) (And.intro (by decide) ?_))
      | refine Exists.intro 4 (And.intro (by decide) (And.intro (by decide) ?_))
      | refine Exists.intro 5 (And.intro (by decide) (And.intro (by decide) ?_))
      | refine Exists.intro 6 (And.intro (by decide) (And.intro (by decide) ?_))
      | refine Exists.intro 7 (And.intro (by decide) (And.intro (by decide) ?_))
      | refine And.intro (show _ < _ by clear hK; first | decide | (simp only [Int32.lt_iff_toInt_lt, Int32.le_iff_toInt_le, ← Int32.toInt_inj, Int32.not_lt, Int32.not_le, kl_c] at *; omega)) ?_
      | (intro v hv; rw [kl_add] at hv; simp only [Nat.reduceAdd] at hv; subst hv))
set_option maxRecDepth 100000 in
set_option maxHeartbeats 1000000 in
theorem kl_op_1452 (xs : Nat → Int32) (K : Nat → wq_T) (hK : ∀ (L : wq_L) (w : wq_W) (n1 n2 : Nat), wq_g L 0 = some (.inl (.ref 100000)) → wq_g L 4 = some (.inl (.int (nI 8))) → Nat.ble n1 600002 = true → Nat.ble n2 7302231 = true → K 23 L [] w n1 n2) : kt_W_law_1452 8 xs K kw_L0 [] kw_w0 207 4018 := by
  repeat' (first
      | exact hK _ _ _ _ rfl rfl rfl rfl
      | refine And.intro (Or.inl rfl) ?_
      | refine And.intro (Or.inr rfl) ?_
      | (refine And.intro (fun h => ?_) (fun h => ?_) <;> first | exact absurd h (by decide) | exact absurd rfl h | (exfalso; clear hK; simp only [Int32.lt_iff_toInt_lt, Int32.le_iff_toInt_le, ← Int32.toInt_inj, Int32.not_lt, Int32.not_le, kl_c] at *; omega) | skip)
      | refine Exists.intro 0 (And.intro (by decide) (And.intro (by decide) ?_))
      | refine Exists.intro 1 (And.intro (by decide) (And.intro (by decide) ?_))
      | refine Exists.intro 2 (And.intro (by decide) (And.intro (by decide) ?_))
      | refine Exists.intro 3 (And.intro (by decide) (And.intro (by decide) ?_))
      | refine Exists.intro 4 (And.intro (by decide) (And.intro (by decide) ?_))
      | refine Exists.intro 5 (And.intro (by decide) (And.intro (by decide) ?_))
      | refine Exists.intro 6 (And.intro (by decide) (And.intro (by decide) ?_))
      | refine Exists.intro 7 (And.intro (by decide) (And.intro (by decide) ?_))
      | refine And.intro (show _ < _ by clear hK; first | decide | (simp only [Int32.lt_iff_toInt_lt, Int32.le_iff_toInt_le, ← Int32.toInt_inj, Int32.not_lt, Int32.not_le, kl_c] at *; omega)) ?_
      | (intro v hv; rw [kl_add] at hv; simp only [Nat.reduceAdd] at hv; subst hv))
set_option maxRecDepth 100000 in
set_option maxHeartbeats 1000000 in
theorem kl_op_1507 (xs : Nat → Int32) (K : Nat → wq_T) (hK : ∀ (L : wq_L) (w : wq_W) (n1 n2 : Nat), wq_g L 0 = some (.inl (.ref 100000)) → wq_g L 4 = some (.inl (.int (nI 8))) → Nat.ble n1 600002 = true → Nat.ble n2 7302231 = true → K 23 L [] w n1 n2) : kt_W_law_1507 8 xs K kw_L0 [] kw_w0 207 4018 := by
  repeat' (first
      | exact hK _ _ _ _ rfl rfl rfl rfl
      | refine And.intro (Or.inl rfl) ?_
      | refine And.intro (Or.inr rfl) ?_
      | (refine And.intro (fun h => ?_) (fun h => ?_) <;> first | exact absurd h (by decide) | exact absurd rfl h | (exfalso; clear hK; simp only [Int32.lt_iff_toInt_lt, Int32.le_iff_toInt_le, ← Int32.toInt_inj, Int32.not_lt, Int32.not_le, kl_c] at *; omega) | skip)
      | refine Exists.intro 0 (And.intro (by decide) (And.intro (by decide) ?_))
      | refine Exists.intro 1 (And.intro (by decide) (And.intro (by decide) ?_))
      | refine Exists.intro 2 (And.intro (by decide) (And.intro (by decide) ?_))
      | refine Exists.intro 3 (And.intro (by decide) (And.intro (by decide) ?_))
      | refine Exists.intro 4 (And.intro (by decide) (And.intro (by decide) ?_))
      | refine Exists.intro 5 (And.intro (by decide) (And.intro (by decide) ?_))
      | refine Exists.intro 6 (And.intro (by decide) (And.intro (by decide) ?_))
      | refine Exists.intro 7 (And.intro (by decide) (And.intro (by decide) ?_))
      | refine And.intro (show _ < _ by clear hK; first | decide | (simp only [Int32.lt_iff_toInt_lt, Int32.le_iff_toInt_le, ← Int32.toInt_inj, Int32.not_lt, Int32.not_le, kl_c] at *; omega)) ?_
      | (intro v hv; rw [kl_add] at hv; simp only [Nat.reduceAdd] at hv; subst hv))
set_option maxRecDepth 100000 in
set_option maxHeartbeats 1000000 in
theorem kl_op_1824 (xs : Nat → Int32) (K : Nat → wq_T) (hK : ∀ (L : wq_L) (w : wq_W) (n1 n2 : Nat), wq_g L 0 = some (.inl (.ref 100000)) → wq_g L 4 = some (.inl (.int (nI 8))) → Nat.ble n1 600002 = true → Nat.ble n2 7302231 = true → K 23 L [] w n1 n2) : kt_W_law_1824 8 xs K kw_L0 [] kw_w0 207 4018 := by
  repeat' (first
      | exact hK _ _ _ _ rfl rfl rfl rfl
      | refine And.intro (Or.inl rfl) ?_
      | refine And.intro (Or.inr rfl) ?_
      | (refine And.intro (fun h => ?_) (fun h => ?_) <;> first | exact absurd h (by decide) | exact absurd rfl h | (exfalso; clear hK; simp only [Int32.lt_iff_toInt_lt, Int32.le_iff_toInt_le, ← Int32.toInt_inj, Int32.not_lt, Int32.not_le, kl_c] at *; omega) | skip)
      | refine Exists.intro 0 (And.intro (by decide) (And.intro (by decide) ?_))
      | refine Exists.intro 1 (And.intro (by decide) (And.intro (by decide) ?_))
      | refine Exists.intro 2 (And.intro (by decide) (And.intro (by decide) ?_))
      | refine Exists.intro 3 (And.intro (by decide) (And.intro (by decide) ?_))
      | refine Exists.intro 4 (And.intro (by decide) (And.intro (by decide) ?_))
      | refine Exists.intro 5 (And.intro (by decide) (And.intro (by decide) ?_))
      | refine Exists.intro 6 (And.intro (by decide) (And.intro (by decide) ?_))
      | refine Exists.intro 7 (And.intro (by decide) (And.intro (by decide) ?_))
      | refine And.intro (show _ < _ by clear hK; first | decide | (simp only [Int32.lt_iff_toInt_lt, Int32.le_iff_toInt_le, ← Int32.toInt_inj, Int32.not_lt, Int32.not_le, kl_c] at *; omega)) ?_
      | (intro v hv; rw [kl_add] at hv; simp only [Nat.reduceAdd] at hv; subst hv))
set_option maxRecDepth 100000 in
set_option maxHeartbeats 1000000 in
theorem kl_op_1958 (xs : Nat → Int32) (K : Nat → wq_T) (hK : ∀ (L : wq_L) (w : wq_W) (n1 n2 : Nat), wq_g L 0 = some (.inl (.ref 100000)) → wq_g L 4 = some (.inl (.int (nI 8))) → Nat.ble n1 600002 = true → Nat.ble n2 7302231 = true → K 23 L [] w n1 n2) : kt_W_law_1958 8 xs K kw_L0 [] kw_w0 207 4018 := by
  repeat' (first
      | exact hK _ _ _ _ rfl rfl rfl rfl
      | refine And.intro (Or.inl rfl) ?_
      | refine And.intro (Or.inr rfl) ?_
      | (refine And.intro (fun h => ?_) (fun h => ?_) <;> first | exact absurd h (by decide) | exact absurd rfl h | (exfalso; clear hK; simp only [Int32.lt_iff_toInt_lt, Int32.le_iff_toInt_le, ← Int32.toInt_inj, Int32.not_lt, Int32.not_le, kl_c] at *; omega) | skip)
      | refine Exists.intro 0 (And.intro (by decide) (And.intro (by decide) ?_))
      | refine Exists.intro 1 (And.intro (by decide) (And.intro (by decide) ?_))
      | refine Exists.intro 2 (And.intro (by decide) (And.intro (by decide) ?_))
      | refine Exists.intro 3 (And.intro (by decide) (And.intro (by decide) ?_))
      | refine Exists.intro 4 (And.intro (by decide) (And.intro (by decide) ?_))
      | refine Exists.intro 5 (And.intro (by decide) (And.intro (by decide) ?_))
      | refine Exists.intro 6 (And.intro (by decide) (And.intro (by decide) ?_))
      | refine Exists.intro 7 (And.intro (by decide) (And.intro (by decide) ?_))
      | refine And.intro (show _ < _ by clear hK; first | decide | (simp only [Int32.lt_iff_toInt_lt, Int32.le_iff_toInt_le, ← Int32.toInt_inj, Int32.not_lt, Int32.not_le, kl_c] at *; omega)) ?_
      | (intro v hv; rw [kl_add] at hv; simp only [Nat.reduceAdd] at hv; subst hv))
