/-! The first world keeps the invariant; the end. -/
def sf_al : List (Nat × Nat × Nat × Int × Int) → wq_W → Prop
  | [], _ => True
  | t :: ts, e :: es => sf_E t e ∧ sf_al ts es
  | _ :: _, [] => False
theorem sf_al_ok : ∀ (ts : List (Nat × Nat × Nat × Int × Int)) (w : wq_W), sf_al ts w → ∀ (p : Nat) (t : Nat × Nat × Nat × Int × Int), ts[p]? = some t → ∃ e, wq_n w p = some e ∧ sf_E t e
  | [], _, _, p, t, hp => by simp at hp
  | t0 :: ts, [], h, _, _, _ => h.elim
  | t0 :: ts, e :: es, h, 0, t, hp => by
    simp only [List.getElem?_cons_zero, Option.some.injEq] at hp
    subst hp
    exact ⟨e, rfl, h.1⟩
  | t0 :: ts, e :: es, h, p + 1, t, hp => by
    rw [List.getElem?_cons_succ] at hp
    exact sf_al_ok ts es h.2 p t hp
def sf_fa : List (Nat × Nat × Int × Int) → List wq_V → Prop
  | [], [] => True
  | z :: zs, v :: vs => sf_fv z v ∧ sf_fa zs vs
  | _, _ => False
theorem sf_fa_ok : ∀ (zs : List (Nat × Nat × Int × Int)) (vs : List wq_V), sf_fa zs vs → vs.length = zs.length ∧ ∀ (j : Nat) (z : Nat × Nat × Int × Int) (v : wq_V), zs[j]? = some z → vs[j]? = some v → sf_fv z v
  | [], [], _ => ⟨rfl, fun j z v h => by simp at h⟩
  | [], _ :: _, h => h.elim
  | _ :: _, [], h => h.elim
  | z0 :: zs, v0 :: vs, h => by
    obtain ⟨h1, h2⟩ := sf_fa_ok zs vs h.2
    refine ⟨by rw [List.length_cons, List.length_cons, h1], ?_⟩
    intro j z v hz hv
    cases j with
    | zero =>
      simp only [List.getElem?_cons_zero, Option.some.injEq] at hz hv
      subst hz; subst hv
      exact h.1
    | succ j =>
      rw [List.getElem?_cons_succ] at hz hv
      exact h2 j z v hz hv
theorem sf_00 {lo hi : Int} (h1 : lo ≤ 0) (h2 : 0 ≤ hi) : lo ≤ (0 : Int32).toInt ∧ (0 : Int32).toInt ≤ hi := by
  rw [sf_z0]
  exact ⟨h1, h2⟩
theorem sf_ob0 : sf_fa (sf_o 0) [.inl (.ref 1), .inl (.ref 13), .inl (.ref 21), .inl (.ref 28), .inl (.ref 35), .inl (.ref 51), .inl (.ref 60), .inl (.ref 67)] := ⟨rfl, rfl, rfl, rfl, rfl, rfl, rfl, rfl, trivial⟩
theorem sf_ob1 : sf_fa (sf_o 1) [.inl (.int 0), .inl (.ref 2), .inl (.ref 3), .inl (.ref 4), .inl (.ref 5), .inl (.int 0), .inl (.ref 6), .inl (.ref 7), .inl (.ref 8), .inl (.ref 9), .inl (.ref 10), .inl (.ref 11), .inl (.ref 12)] := ⟨⟨0, rfl, sf_00 (by decide) (by decide)⟩, rfl, rfl, rfl, rfl, ⟨0, rfl, sf_00 (by decide) (by decide)⟩, rfl, rfl, rfl, rfl, rfl, rfl, rfl, trivial⟩
theorem sf_ob13 : sf_fa (sf_o 2) [.inl (.ref 1), .inl (.int 0), .inl (.ref 14), .inl (.ref 15), .inl (.ref 16), .inl (.ref 17), .inl (.ref 18), .inl (.ref 19), .inl (.ref 20)] := ⟨rfl, ⟨0, rfl, sf_00 (by decide) (by decide)⟩, rfl, rfl, rfl, rfl, rfl, rfl, rfl, trivial⟩
theorem sf_ob21 : sf_fa (sf_o 3) [.inl (.ref 1), .inl (.int 0), .inl (.ref 22), .inl (.ref 23), .inl (.ref 24), .inl (.ref 25), .inl (.ref 26), .inl (.ref 27)] := ⟨rfl, ⟨0, rfl, sf_00 (by decide) (by decide)⟩, rfl, rfl, rfl, rfl, rfl, rfl, trivial⟩
theorem sf_ob28 : sf_fa (sf_o 4) [.inl (.ref 1), .inl (.ref 29), .inl (.ref 30), .inl (.ref 31), .inl (.ref 32), .inl (.ref 33), .inl (.ref 34)] := ⟨rfl, rfl, rfl, rfl, rfl, rfl, rfl, trivial⟩
theorem sf_ob35 : sf_fa (sf_o 5) [.inl (.int 0), .inl (.ref 36), .inl (.ref 37), .inl (.ref 38), .inl (.ref 39), .inl (.ref 40), .inl (.ref 41), .inl (.ref 42), .inl (.ref 43), .inl (.ref 44), .inl (.ref 45), .inl (.ref 46), .inl (.ref 47), .inl (.ref 48), .inl (.ref 49), .inl (.ref 50)] := ⟨⟨0, rfl, sf_00 (by decide) (by decide)⟩, rfl, rfl, rfl, rfl, rfl, rfl, rfl, rfl, rfl, rfl, rfl, rfl, rfl, rfl, rfl, trivial⟩
theorem sf_ob51 : sf_fa (sf_o 6) [.inl (.ref 1), .inl (.ref 13), .inl (.ref 21), .inl (.ref 35), .inl (.ref 52), .inl (.ref 53), .inl (.ref 54), .inl (.ref 55), .inl (.ref 56), .inl (.ref 57), .inl (.ref 58), .inl (.ref 59)] := ⟨rfl, rfl, rfl, rfl, rfl, rfl, rfl, rfl, rfl, rfl, rfl, rfl, trivial⟩
theorem sf_ob60 : sf_fa (sf_o 7) [.inl (.int 0), .inl (.ref 61), .inl (.ref 62), .inl (.ref 63), .inl (.ref 64), .inl (.ref 65), .inl (.ref 66)] := ⟨⟨0, rfl, sf_00 (by decide) (by decide)⟩, rfl, rfl, rfl, rfl, rfl, rfl, trivial⟩
theorem sf_ob67 : sf_fa (sf_o 8) [.inl (.long 0), .inl (.long 0), .inl (.ref 68), .inl (.ref 69), .inl (.ref 70)] := ⟨⟨0, rfl⟩, ⟨0, rfl⟩, rfl, rfl, rfl, trivial⟩
theorem sf_ob71 : sf_fa (sf_o 9) [.inl (.int 0), .inl (.int 0), .inl (.ref 72), .inl (.ref 73), .inl (.ref 74), .inl (.int 0), .inl (.ref 75), .inl (.ref 76), .inl (.ref 77), .inl (.ref 78), .inl (.int 0), .inl (.ref 79), .inl (.ref 80), .inl (.ref 81), .inl (.ref 82), .inl (.ref 83), .inl (.ref 84), .inl (.ref 85), .inl (.int 0), .inl (.ref 86), .inl (.ref 87), .inl (.ref 88), .inl (.ref 89), .inl (.ref 90), .inl (.ref 91), .inl (.ref 92), .inl (.ref 93), .inl (.ref 94), .inl (.ref 95), .inl (.ref 96), .inl (.ref 97), .inl (.ref 98), .inl (.ref 99), .inl (.ref 100), .inl (.ref 101), .inl (.int 0), .inl (.ref 102), .inl (.ref 103), .inl (.ref 104), .inl (.ref 105), .inl (.ref 106), .inl (.int (-1)), .inl (.ref 107), .inl (.ref 108), .inl (.ref 109), .inl (.ref 110), .inl (.ref 111), .inl (.ref 112), .inl (.ref 113), .inl (.ref 114), .inl (.ref 115), .inl (.ref 116), .inl (.ref 117), .inl (.ref 118), .inl (.ref 119), .inl (.ref 120), .inl (.int 0), .inl (.ref 121), .inl (.ref 122), .inl (.ref 123), .inl (.ref 124), .inl (.ref 125), .inl (.ref 126), .inl (.ref 127), .inl (.ref 128), .inl (.ref 129), .inl (.long 0), .inl (.long 0)] := ⟨⟨0, rfl, sf_00 (by decide) (by decide)⟩, ⟨0, rfl, sf_00 (by decide) (by decide)⟩, rfl, rfl, rfl, ⟨0, rfl, sf_00 (by decide) (by decide)⟩, rfl, rfl, rfl, rfl, ⟨0, rfl, sf_00 (by decide) (by decide)⟩, rfl, rfl, rfl, rfl, rfl, rfl, rfl, ⟨0, rfl, sf_00 (by decide) (by decide)⟩, rfl, rfl, rfl, rfl, rfl, rfl, rfl, rfl, rfl, rfl, rfl, rfl, rfl, rfl, rfl, rfl, ⟨0, rfl, sf_00 (by decide) (by decide)⟩, rfl, rfl, rfl, rfl, rfl, ⟨(-1), rfl, by decide, by decide⟩, rfl, rfl, rfl, rfl, rfl, rfl, rfl, rfl, rfl, rfl, rfl, rfl, rfl, rfl, ⟨0, rfl, sf_00 (by decide) (by decide)⟩, rfl, rfl, rfl, rfl, rfl, rfl, rfl, rfl, rfl, ⟨0, rfl⟩, ⟨0, rfl⟩, trivial⟩
set_option maxRecDepth 100000 in
theorem sf_al0 : sf_al sf_t kw_w0 := ⟨⟨_, rfl, sf_fa_ok _ _ sf_ob0⟩, ⟨_, rfl, sf_fa_ok _ _ sf_ob1⟩, ⟨_, rfl, fun _ _ => sf_00 (by decide) (by decide)⟩, ⟨_, rfl, fun _ _ => sf_00 (by decide) (by decide)⟩, ⟨_, rfl, fun _ _ => sf_00 (by decide) (by decide)⟩, ⟨_, rfl, fun _ _ => sf_00 (by decide) (by decide)⟩, ⟨_, rfl, fun _ _ => sf_00 (by decide) (by decide)⟩, ⟨_, rfl, fun _ _ => sf_00 (by decide) (by decide)⟩, ⟨_, rfl, fun _ _ => sf_00 (by decide) (by decide)⟩, ⟨_, rfl, fun _ _ => sf_00 (by decide) (by decide)⟩, ⟨_, rfl, fun _ _ _ _ => sf_00 (by decide) (by decide)⟩, ⟨_, rfl, fun _ _ => sf_00 (by decide) (by decide)⟩, ⟨_, rfl, fun _ _ => sf_00 (by decide) (by decide)⟩, ⟨_, rfl, sf_fa_ok _ _ sf_ob13⟩, ⟨_, rfl, fun _ _ => sf_00 (by decide) (by decide)⟩, ⟨_, rfl, fun _ _ => sf_00 (by decide) (by decide)⟩, ⟨_, rfl, fun _ _ => sf_00 (by decide) (by decide)⟩, ⟨_, rfl, fun _ _ => sf_00 (by decide) (by decide)⟩, ⟨_, rfl, fun _ _ => sf_00 (by decide) (by decide)⟩, ⟨_, rfl, fun _ _ => sf_00 (by decide) (by decide)⟩, ⟨_, rfl, fun _ _ => sf_00 (by decide) (by decide)⟩, ⟨_, rfl, sf_fa_ok _ _ sf_ob21⟩, ⟨_, rfl, fun _ _ => sf_00 (by decide) (by decide)⟩, ⟨_, rfl, fun _ _ => sf_00 (by decide) (by decide)⟩, ⟨_, rfl, fun _ _ => sf_00 (by decide) (by decide)⟩, ⟨_, rfl, fun _ _ => sf_00 (by decide) (by decide)⟩, ⟨_, rfl, fun _ _ => sf_00 (by decide) (by decide)⟩, ⟨_, rfl, fun _ _ => sf_00 (by decide) (by decide)⟩, ⟨_, rfl, sf_fa_ok _ _ sf_ob28⟩, ⟨_, rfl, fun _ _ => sf_00 (by decide) (by decide)⟩, ⟨_, rfl, fun _ _ => sf_00 (by decide) (by decide)⟩, ⟨_, rfl, fun _ _ _ _ => sf_00 (by decide) (by decide)⟩, ⟨_, rfl, fun _ _ _ _ => sf_00 (by decide) (by decide)⟩, ⟨_, rfl, fun _ _ _ _ => sf_00 (by decide) (by decide)⟩, ⟨_, rfl, fun _ _ => sf_00 (by decide) (by decide)⟩, ⟨_, rfl, sf_fa_ok _ _ sf_ob35⟩, ⟨_, rfl, fun _ _ => sf_00 (by decide) (by decide)⟩, ⟨_, rfl, fun _ _ => sf_00 (by decide) (by decide)⟩, ⟨_, rfl, fun _ _ => sf_00 (by decide) (by decide)⟩, ⟨_, rfl, fun _ _ _ _ => sf_00 (by decide) (by decide)⟩, ⟨_, rfl, fun _ _ => sf_00 (by decide) (by decide)⟩, ⟨_, rfl, fun _ _ => sf_00 (by decide) (by decide)⟩, ⟨_, rfl, fun _ _ => sf_00 (by decide) (by decide)⟩, ⟨_, rfl, fun _ _ => sf_00 (by decide) (by decide)⟩, ⟨_, rfl, fun _ _ => sf_00 (by decide) (by decide)⟩, ⟨_, rfl, fun _ _ => sf_00 (by decide) (by decide)⟩, ⟨_, rfl, fun _ _ => sf_00 (by decide) (by decide)⟩, ⟨_, rfl, fun _ _ => sf_00 (by decide) (by decide)⟩, ⟨_, rfl, fun _ _ => sf_00 (by decide) (by decide)⟩, ⟨_, rfl, fun _ _ => sf_00 (by decide) (by decide)⟩, ⟨_, rfl⟩, ⟨_, rfl, sf_fa_ok _ _ sf_ob51⟩, ⟨_, rfl, fun _ _ => sf_00 (by decide) (by decide)⟩, ⟨_, rfl⟩, ⟨_, rfl⟩, ⟨_, rfl, fun _ _ => sf_00 (by decide) (by decide)⟩, ⟨_, rfl, fun _ _ => sf_00 (by decide) (by decide)⟩, ⟨_, rfl, fun _ _ => sf_00 (by decide) (by decide)⟩, ⟨_, rfl⟩, ⟨_, rfl⟩, ⟨_, rfl, sf_fa_ok _ _ sf_ob60⟩, ⟨_, rfl, fun _ _ => sf_00 (by decide) (by decide)⟩, ⟨_, rfl, fun _ _ => sf_00 (by decide) (by decide)⟩, ⟨_, rfl, fun _ _ => sf_00 (by decide) (by decide)⟩, ⟨_, rfl⟩, ⟨_, rfl, fun _ _ => sf_00 (by decide) (by decide)⟩, ⟨_, rfl, fun _ _ => sf_00 (by decide) (by decide)⟩, ⟨_, rfl, sf_fa_ok _ _ sf_ob67⟩, ⟨_, rfl, fun _ _ => sf_00 (by decide) (by decide)⟩, ⟨_, rfl, fun _ _ => sf_00 (by decide) (by decide)⟩, ⟨_, rfl, fun _ _ => sf_00 (by decide) (by decide)⟩, ⟨_, rfl, sf_fa_ok _ _ sf_ob71⟩, ⟨_, rfl, fun _ _ => sf_00 (by decide) (by decide)⟩, ⟨_, rfl, fun _ _ => sf_00 (by decide) (by decide)⟩, ⟨_, rfl, fun _ _ => sf_00 (by decide) (by decide)⟩, ⟨_, rfl, fun _ _ => sf_00 (by decide) (by decide)⟩, ⟨_, rfl, fun _ _ => sf_00 (by decide) (by decide)⟩, ⟨_, rfl, fun _ _ => sf_00 (by decide) (by decide)⟩, ⟨_, rfl, fun _ _ => sf_00 (by decide) (by decide)⟩, ⟨_, rfl, fun _ _ => sf_00 (by decide) (by decide)⟩, ⟨_, rfl, fun _ _ => sf_00 (by decide) (by decide)⟩, ⟨_, rfl, fun _ _ => sf_00 (by decide) (by decide)⟩, ⟨_, rfl, fun _ _ => sf_00 (by decide) (by decide)⟩, ⟨_, rfl, fun _ _ => sf_00 (by decide) (by decide)⟩, ⟨_, rfl, fun _ _ => sf_00 (by decide) (by decide)⟩, ⟨_, rfl, fun _ _ => sf_00 (by decide) (by decide)⟩, ⟨_, rfl, fun _ _ => sf_00 (by decide) (by decide)⟩, ⟨_, rfl, fun _ _ => sf_00 (by decide) (by decide)⟩, ⟨_, rfl, fun _ _ => sf_00 (by decide) (by decide)⟩, ⟨_, rfl, fun _ _ => sf_00 (by decide) (by decide)⟩, ⟨_, rfl, fun _ _ => sf_00 (by decide) (by decide)⟩, ⟨_, rfl, fun _ _ => sf_00 (by decide) (by decide)⟩, ⟨_, rfl, fun _ _ => sf_00 (by decide) (by decide)⟩, ⟨_, rfl, fun _ _ => sf_00 (by decide) (by decide)⟩, ⟨_, rfl, fun _ _ => sf_00 (by decide) (by decide)⟩, ⟨_, rfl, fun _ _ => sf_00 (by decide) (by decide)⟩, ⟨_, rfl, fun _ _ => sf_00 (by decide) (by decide)⟩, ⟨_, rfl, fun _ _ => sf_00 (by decide) (by decide)⟩, ⟨_, rfl, fun _ _ => sf_00 (by decide) (by decide)⟩, ⟨_, rfl, fun _ _ => sf_00 (by decide) (by decide)⟩, ⟨_, rfl, fun _ _ => sf_00 (by decide) (by decide)⟩, ⟨_, rfl, fun _ _ => sf_00 (by decide) (by decide)⟩, ⟨_, rfl, fun _ _ => sf_00 (by decide) (by decide)⟩, ⟨_, rfl, fun _ _ => sf_00 (by decide) (by decide)⟩, ⟨_, rfl, fun _ _ => sf_00 (by decide) (by decide)⟩, ⟨_, rfl, fun _ _ => sf_00 (by decide) (by decide)⟩, ⟨_, rfl, fun _ _ => sf_00 (by decide) (by decide)⟩, ⟨_, rfl, fun _ _ => sf_00 (by decide) (by decide)⟩, ⟨_, rfl, fun _ _ => sf_00 (by decide) (by decide)⟩, ⟨_, rfl, fun _ _ => sf_00 (by decide) (by decide)⟩, ⟨_, rfl, fun _ _ => sf_00 (by decide) (by decide)⟩, ⟨_, rfl⟩, ⟨_, rfl⟩, ⟨_, rfl, fun _ _ => sf_00 (by decide) (by decide)⟩, ⟨_, rfl, fun _ _ => sf_00 (by decide) (by decide)⟩, ⟨_, rfl, fun _ _ => sf_00 (by decide) (by decide)⟩, ⟨_, rfl⟩, ⟨_, rfl, fun _ _ => sf_00 (by decide) (by decide)⟩, ⟨_, rfl, fun _ _ => sf_00 (by decide) (by decide)⟩, ⟨_, rfl, fun _ _ => sf_00 (by decide) (by decide)⟩, ⟨_, rfl⟩, ⟨_, rfl, fun _ _ => sf_00 (by decide) (by decide)⟩, ⟨_, rfl, fun _ _ => sf_00 (by decide) (by decide)⟩, ⟨_, rfl, fun _ _ => sf_00 (by decide) (by decide)⟩, ⟨_, rfl⟩, ⟨_, rfl, fun _ _ => sf_00 (by decide) (by decide)⟩, ⟨_, rfl, fun _ _ => sf_00 (by decide) (by decide)⟩, ⟨_, rfl, fun _ _ => sf_00 (by decide) (by decide)⟩, ⟨_, rfl, fun _ _ => sf_00 (by decide) (by decide)⟩, ⟨_, rfl, fun _ _ => sf_00 (by decide) (by decide)⟩, ⟨_, rfl⟩, trivial⟩
set_option maxRecDepth 100000 in
theorem sf_I0 : sf_I kw_w0 := by
  refine ⟨sf_al_ok _ _ sf_al0, ⟨fun h hh hn => ?_, fun h => ?_, Or.inl (by decide)⟩, fun d hd => ⟨by show (0 : Int32).toInt + (0 : Int32).toInt ≤ 40; decide, fun _ => by show (0 : Int32).toInt = 0; decide⟩, fun d k hd hk => ?_⟩
  · show (0 : Int32).toInt < (h : Int)
    rw [sf_z0]
    omega
  · have h1 : (0 : Int32).toInt > 0 := h
    rw [sf_z0] at h1
    omega
  · have h1 : (k : Int) < (0 : Int32).toInt := hk
    rw [sf_z0] at h1
    omega
theorem kl_vc (N : Nat) (xs : Nat → Int32) (hN : N ≤ 4096) : kt_W_law_0 N xs (ku_W_law N xs 5000) [(0, .inl (.ref 100000))] [] [] 0 0 := by
  have h0 : (nI 0).toInt = 0 := by decide
  exact kl_ctor N xs (ku_W_law N xs 5000) (sc_law N hN xs 5000 kw_w0 (nI 0) 207 4018 sf_I0 (by omega) (by omega) (by omega) (by omega)  (by omega))
