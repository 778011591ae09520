theorem kb_u17 (rt : Option wq_V → wq_W → Prop) (xt : Nat → wq_W → Prop) (n : Nat) : ku_O_isMadeIn rt xt (n + 1) 17 = kh_O_isMadeIn_17 rt xt (ku_O_isMadeIn rt xt n) := rfl
theorem kb_u34 (rt : Option wq_V → wq_W → Prop) (xt : Nat → wq_W → Prop) (n : Nat) : ku_O_isMadeIn rt xt (n + 1) 34 = kh_O_isMadeIn_34 rt xt (ku_O_isMadeIn rt xt n) := rfl
theorem kb_has : ∀ j, j < 16 → ¬ ((nI 0 >>> (nI j &&& 31)) &&& nI 1 = nI 1) := by decide
set_option maxRecDepth 100000 in
set_option maxHeartbeats 1000000 in
theorem kb_34 (rt : Option wq_V → wq_W → Prop) (xt : Nat → wq_W → Prop) {a z m3 : Int32} {ja : Nat} (ha : a = nI ja) (hj : ja < 16) (h : rt (some (.inl (.int (nI 0)))) kw_w0) (m : Nat) : ∀ (d q : Nat), q + d = 16 → ku_O_isMadeIn rt xt (d + 2 + m) 34 [(6, .inl (.int (nI q))), (5, .inl (.int (nI 0))), (4, .inl (.int (nI 0))), (3, .inl (.int m3)), (0, .inl (.ref 28)), (1, .inl (.int a)), (2, .inl (.int z))] [] kw_w0 0 0 := by
  intro d
  induction d with
  | zero =>
    intro q hq
    obtain rfl : q = 16 := by omega
    have h17 : ku_O_isMadeIn rt xt (m + 1) 17 [(5, .inl (.int (nI 1))), (6, .inl (.int (nI 16))), (4, .inl (.int (nI 0))), (3, .inl (.int m3)), (0, .inl (.ref 28)), (1, .inl (.int a)), (2, .inl (.int z))] [] kw_w0 0 0 := by
      rw [kb_u17]
      generalize ku_O_isMadeIn rt xt m = K
      refine Exists.intro ja (And.intro ha (And.intro hj ?_))
      refine And.intro (fun _ => ?_) (fun h9 => absurd (by dsimp only; decide) h9)
      refine And.intro (fun h9 => absurd h9 (by subst ha; exact kb_has ja hj)) (fun _ => ?_)
      exact And.intro (Or.inl rfl) (And.intro (Or.inl rfl) h)
    rw [show 0 + 2 + m = (m + 1) + 1 by omega, kb_u34]
    revert h17
    generalize ku_O_isMadeIn rt xt (m + 1) = K
    intro h17
    refine And.intro (fun _ => ?_) (fun h9 => absurd (by decide) h9)
    intro v hv
    rw [kl_add] at hv
    subst hv
    exact h17
  | succ d ih =>
    intro q hq
    have ih1 := ih (q + 1) (by omega)
    rw [show d + 1 + 2 + m = (d + 2 + m) + 1 by omega, kb_u34]
    revert ih1
    generalize ku_O_isMadeIn rt xt (d + 2 + m) = K
    intro ih1
    refine And.intro (fun h9 => absurd h9 (nI_ge (by omega) (by omega))) (fun _ => ?_)
    repeat' (first
      | exact ih1
      | refine And.intro (Or.inl rfl) ?_
      | refine And.intro (Or.inr rfl) ?_
      | (refine And.intro (fun h => ?_) (fun h => ?_) <;> first | exact absurd h (by decide) | exact absurd rfl h | skip)
      | refine Exists.intro q (And.intro rfl (And.intro (by omega) ?_))
      | (intro v hv; rw [kl_add] at hv; subst hv))
