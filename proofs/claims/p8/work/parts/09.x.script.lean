/-! The law's own steps: its script, its end. -/
def wq_slen (N : Nat) (k : wq_T) : wq_T := fun L S w n1 n2 => match S with
  | .inl (.ref p) :: S' => cond (Nat.beq p 100000) (k L (.inl (.int (nI N)) :: S') w n1 n2) False
  | _ => False
def wq_sld (N : Nat) (xs : Nat → Int32) (k : wq_T) : wq_T := fun L S w n1 n2 => match S with
  | .inl (.int i) :: .inl (.ref p) :: S' => cond (Nat.beq p 100000) (∃ j : Nat, i = nI j ∧ j < N ∧ k L (.inl (.int (xs j)) :: S') w n1 n2) False
  | _ => False
def wq_x0 : wq_L → Nat → wq_W → Nat → Nat → Prop := fun _ _ _ _ _ => False
def wq_lend : wq_T := fun _ S _ n1 n2 => match S with
  | [.inl (.int v)] => v = 1 ∧ wq_le n1 601024 (wq_le n2 7293034 True)
  | _ => False
section WQSC
variable {p : Program} {l : Launch} {e : Env} {R : Room} {s : State} {m : MethodId} {args : Array Value} {below : List Frame} {meth : Method} {c : Code} {nL : Nat} {cs : Nat → ClassId} {D : va_G} {cl : List vw_C} {A : Nat → Prop} {Ag : wq_Ad → Prop} {Q : State → Prop} {cc : ByteArray} {pc N b : Nat} {k : wq_T} {xs : Nat → Int32}
theorem wq_slen_ok (h0 : p.tables.exec = Jvm.exec ∧ c.code = cc) (hX : va_X b N xs s s.heap) (hbl : b < s.heap.size) (hbA : ¬ A b) (hg : ∀ ad, Ag ad → ad 100000 0 = b) (hd : decode cc pc = .ok (.arraylength, 1)) (hk : wq_Snd p l e R s m args below meth c nL cs D cl A Ag Q (pc + 1) k) : wq_Snd p l e R s m args below meth c nL cs D cl A Ag Q pc (wq_slen N k) := by
  intro L S w n1 n2 h ad ls H locs hA hl hP hD hS
  unfold wq_slen at h
  split at h
  · rename_i p0 S'
    obtain ⟨rfl, h⟩ := wq_cq h
    have e1 : (Sum.inl (Value.ref 100000) :: S' : List wq_V).map (wq_v ad) = .ref b :: S'.map (wq_v ad) := by
      show Value.ref (ad 100000 0) :: _ = _
      rw [hg ad hA]
    rw [e1]
    exact va_slen h0.1 h0.2 hX hbl hbA hS hd (hk _ _ _ _ _ h ad ls H locs hA hl hP hD hS)
  · exact h.elim
theorem wq_sld_ok (h0 : p.tables.exec = Jvm.exec ∧ c.code = cc) (hX : va_X b N xs s s.heap) (hN : N < 2 ^ 31) (hbl : b < s.heap.size) (hbA : ¬ A b) (hg : ∀ ad, Ag ad → ad 100000 0 = b) (hd : decode cc pc = .ok (.iaload, 1)) (hk : wq_Snd p l e R s m args below meth c nL cs D cl A Ag Q (pc + 1) k) : wq_Snd p l e R s m args below meth c nL cs D cl A Ag Q pc (wq_sld N xs k) := by
  intro L S w n1 n2 h ad ls H locs hA hl hP hD hS
  unfold wq_sld at h
  split at h
  · rename_i i p0 S'
    obtain ⟨rfl, h⟩ := wq_cq h
    obtain ⟨j, rfl, hj, h⟩ := h
    have e1 : (Sum.inl (Value.int (nI j)) :: Sum.inl (Value.ref 100000) :: S' : List wq_V).map (wq_v ad) = .int (nI j) :: .ref b :: S'.map (wq_v ad) := by
      show Value.int (nI j) :: Value.ref (ad 100000 0) :: _ = _
      rw [hg ad hA]
    rw [e1]
    refine va_sld h0.1 h0.2 hX hbl hbA hS (vp_in_nI hj hN) hd ?_
    rw [nI_clamp (by omega)]
    exact hk _ _ _ _ _ h ad ls H locs hA hl hP hD hS
  · exact h.elim
theorem wq_x0_ok : wq_Xok p l e R s m args below meth c nL cs D cl A Ag Q pc wq_x0 := fun _ _ _ _ _ h => h.elim
end WQSC
