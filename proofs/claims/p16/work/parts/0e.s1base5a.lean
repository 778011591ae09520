/-! One or zero. -/
def sp_i (b : Bool) : Int := cond b 1 0
theorem sp_i1 {b : Bool} (h : b = true) : sp_i b = 1 := by subst h; rfl
theorem sp_i0 {b : Bool} (h : b = false) : sp_i b = 0 := by subst h; rfl
theorem sp_ib (b : Bool) : 0 ≤ sp_i b ∧ sp_i b ≤ 1 := by cases b <;> decide
theorem sp_iT {b : Bool} (h : sp_i b = 1) : b = true := by cases b with
  | true => rfl
  | false => exact absurd h (by decide)
theorem sp_iF {b : Bool} (h : sp_i b ≠ 1) : b = false := by cases b with
  | false => rfl
  | true => exact absurd rfl h
theorem sb_eq {x y : Int32} (h : x.toInt = y.toInt) : x = y := Int32.toInt_inj.mp h
theorem sf_i2e {K : wq_T} {L : wq_L} {S : List wq_V} {w : wq_W} {a b : Nat} {f : Int32 → Int32 → Int32} {x y : Int32} (hk : ∀ z : Int32, z = f x y → K L (.inl (.int z) :: S) w a b) : wq_i2 f K L (.inl (.int y) :: .inl (.int x) :: S) w a b := hk _ rfl
