theorem kl_end (xs : Nat → Int32) (n : Nat) (L : wq_L) (w : wq_W) (n1 n2 : Nat) (h0 : wq_g L 0 = some (.inl (.ref 100000))) (h4 : wq_g L 4 = some (.inl (.int (nI 8)))) (h1 : Nat.ble n1 600002 = true) (h2 : Nat.ble n2 7302231 = true) : ku_W_law 8 xs (n + 1) 23 L [] w n1 n2 := by
  show kh_W_law_23 8 xs (ku_W_law 8 xs n) L [] w n1 n2
  generalize ku_W_law 8 xs n = K
  simp only [kh_W_law_23, wq_iload, wq_aload, h4, h0, wq_slen, wq_iconst, wq_i2]
  refine And.intro (fun _ => ?_) (fun h => absurd (by decide) h)
  refine And.intro rfl ?_
  unfold wq_le
  rw [h1, h2]
  trivial
set_option maxRecDepth 100000 in
set_option maxHeartbeats 4000000 in
theorem kl_one  (xs : Nat → Int32) (K : Nat → wq_T) (hK : ∀ (L : wq_L) (w : wq_W) (n1 n2 : Nat), wq_g L 0 = some (.inl (.ref 100000)) → wq_g L 4 = some (.inl (.int (nI 8))) → Nat.ble n1 600002 = true → Nat.ble n2 7302231 = true → K 23 L [] w n1 n2) : kh_W_law_23 8 xs K kw_L0 [] kw_w0 207 4018 := by
  refine And.intro (fun h => absurd h (by decide)) (fun _ => ?_)
  refine Exists.intro 0 (And.intro rfl (And.intro (by decide) ?_))
  refine And.intro (fun _ => kl_op_152 xs K hK) (fun _ => ?_)
  refine And.intro (fun _ => kl_op_208 xs K hK) (fun _ => ?_)
  refine And.intro (fun _ => kl_op_300 xs K hK) (fun _ => ?_)
  refine And.intro (fun _ => kl_op_380 xs K hK) (fun _ => ?_)
  refine And.intro (fun _ => kl_op_436 xs K hK) (fun _ => ?_)
  refine And.intro (fun _ => kl_op_568 xs K hK) (fun _ => ?_)
  refine And.intro (fun _ => kl_op_648 xs K hK) (fun _ => ?_)
  refine And.intro (fun _ => kl_op_766 xs K hK) (fun _ => ?_)
  refine And.intro (fun _ => kl_op_822 xs K hK) (fun _ => ?_)
  refine And.intro (fun _ => kl_op_914 xs K hK) (fun _ => ?_)
  refine And.intro (fun _ => kl_op_962 xs K hK) (fun _ => ?_)
  refine And.intro (fun _ => kl_op_1022 xs K hK) (fun _ => ?_)
  refine And.intro (fun _ => kl_op_1097 xs K hK) (fun _ => ?_)
  refine And.intro (fun _ => kl_op_1165 xs K hK) (fun _ => ?_)
  refine And.intro (fun _ => kl_op_1313 xs K hK) (fun _ => ?_)
  refine And.intro (fun _ => kl_op_1373 xs K hK) (fun _ => ?_)
  refine And.intro (fun _ => kl_op_1452 xs K hK) (fun _ => ?_)
  refine And.intro (fun _ => kl_op_1507 xs K hK) (fun _ => ?_)
  refine And.intro (fun _ => kl_op_1598 xs K hK) (fun _ => ?_)
  refine And.intro (fun _ => kl_op_1665 xs K hK) (fun _ => ?_)
  refine And.intro (fun _ => kl_op_1732 xs K hK) (fun _ => ?_)
  refine And.intro (fun _ => kl_op_1824 xs K hK) (fun _ => ?_)
  refine And.intro (fun _ => kl_op_1891 xs K hK) (fun _ => ?_)
  refine And.intro (fun _ => kl_op_1958 xs K hK) (fun _ => ?_)
  intro v hv
  rw [kl_add] at hv
  simp only [Nat.reduceAdd] at hv
  subst hv
  exact hK _ _ _ _ rfl rfl rfl rfl
set_option maxRecDepth 100000 in
set_option maxHeartbeats 4000000 in
theorem kl_few (N : Nat) (hN : N < 8) (xs : Nat → Int32) (K : Nat → wq_T) : kh_W_law_23 N xs K kw_L0 [] kw_w0 207 4018 := by
  rcases (show N = 0 ∨ N = 1 ∨ N = 2 ∨ N = 3 ∨ N = 4 ∨ N = 5 ∨ N = 6 ∨ N = 7 by omega) with rfl | rfl | rfl | rfl | rfl | rfl | rfl | rfl <;> exact And.intro (fun _ => And.intro rfl trivial) (fun h => absurd (by decide) h)
theorem kl_vc  (N : Nat) (xs : Nat → Int32) (hN : N ≤ 8) : kt_W_law_0 N xs (ku_W_law N xs 3) [(0, .inl (.ref 100000))] [] [] 0 0 := by
  refine kl_ctor N xs (ku_W_law N xs 3) ?_
  show kh_W_law_23 N xs (ku_W_law N xs 2) kw_L0 [] kw_w0 207 4018
  by_cases h8 : N < 8
  · exact kl_few N h8 xs _
  · obtain rfl : N = 8 := by omega
    exact kl_one  xs _ (fun L w n1 n2 h0 h4 h1 h2 => kl_end xs 1 L w n1 n2 h0 h4 h1 h2)
