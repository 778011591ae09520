theorem sf_c0 : (nI 0 : Int32).toInt = 0 := by decide
theorem sf_c1 : (nI 1 : Int32).toInt = 1 := by decide
theorem sf_c10 : (nI 10 : Int32).toInt = 10 := by decide
theorem sf_c1000 : (nI 1000 : Int32).toInt = 1000 := by decide
theorem sf_c10000 : (nI 10000 : Int32).toInt = 10000 := by decide
theorem sf_c11 : (nI 11 : Int32).toInt = 11 := by decide
theorem sf_c12 : (nI 12 : Int32).toInt = 12 := by decide
theorem sf_c13 : (nI 13 : Int32).toInt = 13 := by decide
theorem sf_c14 : (nI 14 : Int32).toInt = 14 := by decide
theorem sf_c1439 : (nI 1439 : Int32).toInt = 1439 := by decide
theorem sf_c1440 : (nI 1440 : Int32).toInt = 1440 := by decide
theorem sf_c15 : (nI 15 : Int32).toInt = 15 := by decide
theorem sf_c16 : (nI 16 : Int32).toInt = 16 := by decide
theorem sf_c17 : (nI 17 : Int32).toInt = 17 := by decide
theorem sf_c18 : (nI 18 : Int32).toInt = 18 := by decide
theorem sf_c19 : (nI 19 : Int32).toInt = 19 := by decide
theorem sf_c2 : (nI 2 : Int32).toInt = 2 := by decide
theorem sf_c20 : (nI 20 : Int32).toInt = 20 := by decide
theorem sf_c21 : (nI 21 : Int32).toInt = 21 := by decide
theorem sf_c22 : (nI 22 : Int32).toInt = 22 := by decide
theorem sf_c23 : (nI 23 : Int32).toInt = 23 := by decide
theorem sf_c24 : (nI 24 : Int32).toInt = 24 := by decide
theorem sf_c255 : (nI 255 : Int32).toInt = 255 := by decide
theorem sf_c256 : (nI 256 : Int32).toInt = 256 := by decide
theorem sf_c3 : (nI 3 : Int32).toInt = 3 := by decide
theorem sf_c31 : (nI 31 : Int32).toInt = 31 := by decide
theorem sf_c4 : (nI 4 : Int32).toInt = 4 := by decide
theorem sf_c40 : (nI 40 : Int32).toInt = 40 := by decide
theorem sf_c5 : (nI 5 : Int32).toInt = 5 := by decide
theorem sf_c6 : (nI 6 : Int32).toInt = 6 := by decide
theorem sf_c63 : (nI 63 : Int32).toInt = 63 := by decide
theorem sf_c7 : (nI 7 : Int32).toInt = 7 := by decide
theorem sf_c8 : (nI 8 : Int32).toInt = 8 := by decide
theorem sf_c9 : (nI 9 : Int32).toInt = 9 := by decide
theorem sf_c9999 : (nI 9999 : Int32).toInt = 9999 := by decide
theorem sf_cl100000 : (100000 : Int32).toInt = 100000 := by decide
theorem sf_cl1000000 : (1000000 : Int32).toInt = 1000000 := by decide
theorem sf_cl10000000 : (10000000 : Int32).toInt = 10000000 := by decide
theorem sf_cl100000000 : (100000000 : Int32).toInt = 100000000 := by decide
theorem sf_cl1431655765 : (1431655765 : Int32).toInt = 1431655765 := by decide
theorem sf_cl252645135 : (252645135 : Int32).toInt = 252645135 := by decide
theorem sf_cl858993459 : (858993459 : Int32).toInt = 858993459 := by decide
theorem sf_cm1 : ((-1) : Int32).toInt = (-1) := by decide
section SF
variable {K K1 K2 : wq_T} {L L' : wq_L} {S : List wq_V} {w w0 : wq_W} {a b : Nat} {M : List Nat} {rt : Option wq_V → wq_W → Prop} {xt : Nat → wq_W → Prop}
theorem sf_iconst {z0 : Int32} {n : Int} (h : z0.toInt = n) (hk : ∀ z : Int32, z.toInt = n → K L (.inl (.int z) :: S) w a b) : wq_iconst z0 K L S w a b := hk _ h
theorem sf_lconst {z0 : Int64} {n : Int} (h : z0.toInt = n) (hk : ∀ z : Int64, z.toInt = n → K L (.inl (.long z) :: S) w a b) : wq_lconst z0 K L S w a b := hk _ h
theorem sf_iload {i : Nat} {x : Int32} (h : wq_g L i = some (.inl (.int x))) (hk : K L (.inl (.int x) :: S) w a b) : wq_iload i K L S w a b := by
  unfold wq_iload
  rw [h]
  exact hk
theorem sf_lload {i : Nat} {x : Int64} (h : wq_g L i = some (.inl (.long x))) (hk : K L (.inl (.long x) :: S) w a b) : wq_lload i K L S w a b := by
  unfold wq_lload
  rw [h]
  exact hk
theorem sf_aload {i p : Nat} (h : wq_g L i = some (.inl (.ref p))) (hk : K L (.inl (.ref p) :: S) w a b) : wq_aload i K L S w a b := by
  unfold wq_aload
  rw [h]
  exact hk
theorem sf_istore {i : Nat} {x : Int32} (h : wq_d1 i L = L') (hk : K ((i, .inl (.int x)) :: L') S w a b) : wq_istore i K L (.inl (.int x) :: S) w a b := by
  show wq_nf (wq_d1 i L) _
  rw [wq_nf_eq, h]
  exact hk
theorem sf_lstore {i : Nat} {x : Int64} (h : wq_d2 i L = L') (hk : K ((i, .inl (.long x)) :: L') S w a b) : wq_lstore i K L (.inl (.long x) :: S) w a b := by
  show wq_nf (wq_d2 i L) _
  rw [wq_nf_eq, h]
  exact hk
theorem sf_bm {x : Int} (h : -2147483648 ≤ x ∧ x ≤ 2147483647) : x.bmod (2 ^ 32) = x := by
  apply Int.bmod_eq_of_le <;> omega
theorem sf_bml {x : Int} (h : -9223372036854775808 ≤ x ∧ x ≤ 9223372036854775807) : x.bmod (2 ^ 64) = x := by
  apply Int.bmod_eq_of_le <;> omega
theorem sf_iinc {i : Nat} {d x : Int32} {n : Int} (hd : d.toInt = n) (h : wq_g L i = some (.inl (.int x))) (h' : wq_d1 i L = L') (hr : -2147483648 ≤ x.toInt + n ∧ x.toInt + n ≤ 2147483647) (hk : ∀ z : Int32, z.toInt = x.toInt + n → K ((i, .inl (.int z)) :: L') S w a b) : wq_iinc i d K L S w a b := by
  unfold wq_iinc
  rw [h]
  intro v hv
  rw [wq_nf_eq, h']
  refine hk v ?_
  rw [hv, Int32.toInt_add, hd]
  exact sf_bm hr
theorem sf_iincw {i : Nat} {d x : Int32} (h : wq_g L i = some (.inl (.int x))) (h' : wq_d1 i L = L') (hk : ∀ z : Int32, K ((i, .inl (.int z)) :: L') S w a b) : wq_iinc i d K L S w a b := by
  unfold wq_iinc
  rw [h]
  intro v hv
  rw [wq_nf_eq, h']
  exact hk v
theorem sf_i2 {f : Int32 → Int32 → Int32} {x y : Int32} (hk : ∀ z : Int32, K L (.inl (.int z) :: S) w a b) : wq_i2 f K L (.inl (.int y) :: .inl (.int x) :: S) w a b := hk _
theorem sf_iadd {x y : Int32} (h : -2147483648 ≤ x.toInt + y.toInt ∧ x.toInt + y.toInt ≤ 2147483647) (hk : ∀ z : Int32, z.toInt = x.toInt + y.toInt → K L (.inl (.int z) :: S) w a b) : wq_i2 (fun x y => x + y) K L (.inl (.int y) :: .inl (.int x) :: S) w a b :=
  hk _ (by rw [Int32.toInt_add]; exact sf_bm h)
theorem sf_isub {x y : Int32} (h : -2147483648 ≤ x.toInt - y.toInt ∧ x.toInt - y.toInt ≤ 2147483647) (hk : ∀ z : Int32, z.toInt = x.toInt - y.toInt → K L (.inl (.int z) :: S) w a b) : wq_i2 (fun x y => x - y) K L (.inl (.int y) :: .inl (.int x) :: S) w a b :=
  hk _ (by rw [Int32.toInt_sub]; exact sf_bm h)
theorem sf_imulr {x y : Int32} {n : Int} (hy : y.toInt = n) (h : -2147483648 ≤ x.toInt * n ∧ x.toInt * n ≤ 2147483647) (hk : ∀ z : Int32, z.toInt = x.toInt * n → K L (.inl (.int z) :: S) w a b) : wq_i2 (fun x y => x * y) K L (.inl (.int y) :: .inl (.int x) :: S) w a b :=
  hk _ (by rw [Int32.toInt_mul, hy]; exact sf_bm h)
theorem sf_imull {x y : Int32} {n : Int} (hy : x.toInt = n) (h : -2147483648 ≤ n * y.toInt ∧ n * y.toInt ≤ 2147483647) (hk : ∀ z : Int32, z.toInt = n * y.toInt → K L (.inl (.int z) :: S) w a b) : wq_i2 (fun x y => x * y) K L (.inl (.int y) :: .inl (.int x) :: S) w a b :=
  hk _ (by rw [Int32.toInt_mul, hy]; exact sf_bm h)
theorem sf_iand {x y : Int32} {n : Nat} (hy : y.toInt = n) (hn : n < 2147483648) (hk : ∀ z : Int32, 0 ≤ z.toInt → z.toInt ≤ n → K L (.inl (.int z) :: S) w a b) : wq_i2 (fun x y => x &&& y) K L (.inl (.int y) :: .inl (.int x) :: S) w a b := by
  have hb : (x &&& y).toBitVec.toNat ≤ n := by
    have h1 : (x &&& y).toBitVec = x.toBitVec &&& y.toBitVec := rfl
    have h2 : y = nI n := by
      have h3 := sf_nI (x := y) (by omega)
      rw [hy] at h3
      exact h3
    have h4 : y.toBitVec.toNat = n := by
      rw [h2]
      show (BitVec.ofNat 32 n).toNat = n
      rw [BitVec.toNat_ofNat]
      omega
    rw [h1, BitVec.toNat_and, h4]
    exact Nat.and_le_right
  have hz : (x &&& y).toInt = ((x &&& y).toBitVec.toNat : Int) := by
    show (x &&& y).toBitVec.toInt = _
    rw [BitVec.toInt_eq_toNat_cond, if_pos (by omega)]
  exact hk _ (by rw [hz]; omega) (by rw [hz]; omega)
theorem sf_l2 {f : Int64 → Int64 → Int64} {x y : Int64} (hk : ∀ z : Int64, K L (.inl (.long z) :: S) w a b) : wq_l2 f K L (.inl (.long y) :: .inl (.long x) :: S) w a b := hk _
theorem sf_l2d {f : Int64 → Int64 → Int64} {x y : Int64} (h : y.toInt ≠ 0) (hk : ∀ z : Int64, K L (.inl (.long z) :: S) w a b) : wq_l2d f K L (.inl (.long y) :: .inl (.long x) :: S) w a b :=
  ⟨fun hy => h (by rw [hy]; decide), hk _⟩
theorem sf_lmull {x y : Int64} {n : Int} (hx : x.toInt = n) (h : -9223372036854775808 ≤ n * y.toInt ∧ n * y.toInt ≤ 9223372036854775807) (hk : ∀ z : Int64, z.toInt = n * y.toInt → K L (.inl (.long z) :: S) w a b) : wq_l2 (fun x y => x * y) K L (.inl (.long y) :: .inl (.long x) :: S) w a b :=
  hk _ (by rw [Int64.toInt_mul, hx]; exact sf_bml h)
theorem sf_lmulr {x y : Int64} {n : Int} (hy : y.toInt = n) (h : -9223372036854775808 ≤ x.toInt * n ∧ x.toInt * n ≤ 9223372036854775807) (hk : ∀ z : Int64, z.toInt = x.toInt * n → K L (.inl (.long z) :: S) w a b) : wq_l2 (fun x y => x * y) K L (.inl (.long y) :: .inl (.long x) :: S) w a b :=
  hk _ (by rw [Int64.toInt_mul, hy]; exact sf_bml h)
theorem sf_lmul2 {x y : Int64} (hx : x.toInt = 2) (h : 0 < y.toInt) (hk : ∀ z : Int64, z.toInt ≠ 0 → K L (.inl (.long z) :: S) w a b) : wq_l2 (fun x y => x * y) K L (.inl (.long y) :: .inl (.long x) :: S) w a b := by
  refine hk _ ?_
  rw [Int64.toInt_mul, hx]
  have h1 := sf_bl y
  intro h2
  have h3 := Int.emod_emod_of_dvd (2 * y.toInt) (Int.dvd_refl (2 ^ 64))
  have h4 : (2 * y.toInt).bmod (2 ^ 64) % (2 ^ 64 : Nat) = 2 * y.toInt % (2 ^ 64 : Nat) := Int.bmod_emod ..
  rw [h2] at h4
  omega
theorem sf_i2l {x : Int32} (hk : ∀ z : Int64, z.toInt = x.toInt → K L (.inl (.long z) :: S) w a b) : wq_i2l K L (.inl (.int x) :: S) w a b := hk _ (Int32.toInt_toInt64 x)
theorem sf_i2lb {x : Int32} (hk : ∀ z : Int64, z.toInt = x.toInt → -2147483648 ≤ z.toInt → z.toInt ≤ 2147483647 → K L (.inl (.long z) :: S) w a b) : wq_i2l K L (.inl (.int x) :: S) w a b := hk _ (Int32.toInt_toInt64 x) (by rw [Int32.toInt_toInt64]; exact (sf_bd x).1) (by rw [Int32.toInt_toInt64]; exact (sf_bd x).2)
theorem sf_l2i {x : Int64} (hk : ∀ z : Int32, K L (.inl (.int z) :: S) w a b) : wq_l2i K L (.inl (.long x) :: S) w a b := hk _
theorem sf_dup {v : wq_V} (h : Nat.beq (wq_c v) 1 = true) (hk : K L (v :: v :: S) w a b) : wq_dup K L (v :: S) w a b := by
  show cond (Nat.beq (wq_c v) 1) _ _
  rw [h]
  exact hk
theorem sf_pop {v : wq_V} (h : Nat.beq (wq_c v) 1 = true) (hk : K L S w a b) : wq_pop K L (v :: S) w a b := by
  show cond (Nat.beq (wq_c v) 1) _ _
  rw [h]
  exact hk
theorem sf_pop2 {v : wq_V} (h : Nat.beq (wq_c v) 2 = true) (hk : K L S w a b) : wq_pop2 K L (v :: S) w a b := by
  show cond (Nat.beq (wq_c v) 2) _ _
  rw [h]
  exact hk
theorem sf_dup2 {u v : wq_V} (h : Nat.beq (wq_c u) 1 = true) (h' : Nat.beq (wq_c v) 1 = true) (hk : K L (u :: v :: u :: v :: S) w a b) : wq_dup2 K L (u :: v :: S) w a b := by
  show cond (Nat.beq (wq_c u) 1) (cond (Nat.beq (wq_c v) 1) _ _) _
  rw [h, h']
  exact hk
theorem sf_z0 : (0 : Int32).toInt = 0 := by decide
theorem sf_f1_eq {x : Int32} (h1 : x.toInt = 0 → K1 L S w a b) (h2 : x.toInt ≠ 0 → K2 L S w a b) : wq_f1 (fun x => x = 0) K1 K2 L (.inl (.int x) :: S) w a b := by
  have hz := sf_z0
  exact ⟨fun h => h1 (by rw [h]; exact hz), fun h => h2 (fun z => h (Int32.toInt_inj.mp (by rw [z, hz])))⟩
theorem sf_f1_lt {x : Int32} (h1 : x.toInt < 0 → K1 L S w a b) (h2 : 0 ≤ x.toInt → K2 L S w a b) : wq_f1 (fun x => x < 0) K1 K2 L (.inl (.int x) :: S) w a b := by
  have hz := sf_z0
  exact ⟨fun h => h1 (by have h9 := Int32.lt_iff_toInt_lt.mp h; omega), fun h => h2 (by have h9 := mt Int32.lt_iff_toInt_lt.mpr h; omega)⟩
theorem sf_f1_ge {x : Int32} (h1 : 0 ≤ x.toInt → K1 L S w a b) (h2 : x.toInt < 0 → K2 L S w a b) : wq_f1 (fun x => 0 ≤ x) K1 K2 L (.inl (.int x) :: S) w a b := by
  have hz := sf_z0
  exact ⟨fun h => h1 (by have h9 := Int32.le_iff_toInt_le.mp h; omega), fun h => h2 (by have h9 := mt Int32.le_iff_toInt_le.mpr h; omega)⟩
theorem sf_f1_gt {x : Int32} (h1 : 0 < x.toInt → K1 L S w a b) (h2 : x.toInt ≤ 0 → K2 L S w a b) : wq_f1 (fun x => 0 < x) K1 K2 L (.inl (.int x) :: S) w a b := by
  have hz := sf_z0
  exact ⟨fun h => h1 (by have h9 := Int32.lt_iff_toInt_lt.mp h; omega), fun h => h2 (by have h9 := mt Int32.lt_iff_toInt_lt.mpr h; omega)⟩
theorem sf_f1_le {x : Int32} (h1 : x.toInt ≤ 0 → K1 L S w a b) (h2 : 0 < x.toInt → K2 L S w a b) : wq_f1 (fun x => x ≤ 0) K1 K2 L (.inl (.int x) :: S) w a b := by
  have hz := sf_z0
  exact ⟨fun h => h1 (by have h9 := Int32.le_iff_toInt_le.mp h; omega), fun h => h2 (by have h9 := mt Int32.le_iff_toInt_le.mpr h; omega)⟩
theorem sf_f2_eq {x y : Int32} (h1 : x.toInt = y.toInt → K1 L S w a b) (h2 : x.toInt ≠ y.toInt → K2 L S w a b) : wq_f2 (fun x y => x = y) K1 K2 L (.inl (.int y) :: .inl (.int x) :: S) w a b := by
  exact ⟨fun h => h1 (by rw [h]), fun h => h2 (fun z => h (Int32.toInt_inj.mp z))⟩
theorem sf_f2_lt {x y : Int32} (h1 : x.toInt < y.toInt → K1 L S w a b) (h2 : y.toInt ≤ x.toInt → K2 L S w a b) : wq_f2 (fun x y => x < y) K1 K2 L (.inl (.int y) :: .inl (.int x) :: S) w a b := by
  exact ⟨fun h => h1 (by have h9 := Int32.lt_iff_toInt_lt.mp h; omega), fun h => h2 (by have h9 := mt Int32.lt_iff_toInt_lt.mpr h; omega)⟩
theorem sf_f2_ge {x y : Int32} (h1 : y.toInt ≤ x.toInt → K1 L S w a b) (h2 : x.toInt < y.toInt → K2 L S w a b) : wq_f2 (fun x y => y ≤ x) K1 K2 L (.inl (.int y) :: .inl (.int x) :: S) w a b := by
  exact ⟨fun h => h1 (by have h9 := Int32.le_iff_toInt_le.mp h; omega), fun h => h2 (by have h9 := mt Int32.le_iff_toInt_le.mpr h; omega)⟩
theorem sf_f2_gt {x y : Int32} (h1 : y.toInt < x.toInt → K1 L S w a b) (h2 : x.toInt ≤ y.toInt → K2 L S w a b) : wq_f2 (fun x y => y < x) K1 K2 L (.inl (.int y) :: .inl (.int x) :: S) w a b := by
  exact ⟨fun h => h1 (by have h9 := Int32.lt_iff_toInt_lt.mp h; omega), fun h => h2 (by have h9 := mt Int32.lt_iff_toInt_lt.mpr h; omega)⟩
theorem sf_f2_le {x y : Int32} (h1 : x.toInt ≤ y.toInt → K1 L S w a b) (h2 : y.toInt < x.toInt → K2 L S w a b) : wq_f2 (fun x y => x ≤ y) K1 K2 L (.inl (.int y) :: .inl (.int x) :: S) w a b := by
  exact ⟨fun h => h1 (by have h9 := Int32.le_iff_toInt_le.mp h; omega), fun h => h2 (by have h9 := mt Int32.le_iff_toInt_le.mpr h; omega)⟩
theorem sf_fl_eq {x y : Int64} (h1 : x.toInt = y.toInt → K1 L S w a b) (h2 : x.toInt ≠ y.toInt → K2 L S w a b) : wq_fl (fun x y => x = y) K1 K2 L (.inl (.long y) :: .inl (.long x) :: S) w a b := by
  exact ⟨fun h => h1 (by rw [h]), fun h => h2 (fun z => h (Int64.toInt_inj.mp z))⟩
theorem sf_fl_lt {x y : Int64} (h1 : x.toInt < y.toInt → K1 L S w a b) (h2 : y.toInt ≤ x.toInt → K2 L S w a b) : wq_fl (fun x y => x < y) K1 K2 L (.inl (.long y) :: .inl (.long x) :: S) w a b := by
  exact ⟨fun h => h1 (by have h9 := Int64.lt_iff_toInt_lt.mp h; omega), fun h => h2 (by have h9 := mt Int64.lt_iff_toInt_lt.mpr h; omega)⟩
theorem sf_fl_ge {x y : Int64} (h1 : y.toInt ≤ x.toInt → K1 L S w a b) (h2 : x.toInt < y.toInt → K2 L S w a b) : wq_fl (fun x y => y ≤ x) K1 K2 L (.inl (.long y) :: .inl (.long x) :: S) w a b := by
  exact ⟨fun h => h1 (by have h9 := Int64.le_iff_toInt_le.mp h; omega), fun h => h2 (by have h9 := mt Int64.le_iff_toInt_le.mpr h; omega)⟩
theorem sf_fl_gt {x y : Int64} (h1 : y.toInt < x.toInt → K1 L S w a b) (h2 : x.toInt ≤ y.toInt → K2 L S w a b) : wq_fl (fun x y => y < x) K1 K2 L (.inl (.long y) :: .inl (.long x) :: S) w a b := by
  exact ⟨fun h => h1 (by have h9 := Int64.lt_iff_toInt_lt.mp h; omega), fun h => h2 (by have h9 := mt Int64.lt_iff_toInt_lt.mpr h; omega)⟩
theorem sf_fl_le {x y : Int64} (h1 : x.toInt ≤ y.toInt → K1 L S w a b) (h2 : y.toInt < x.toInt → K2 L S w a b) : wq_fl (fun x y => x ≤ y) K1 K2 L (.inl (.long y) :: .inl (.long x) :: S) w a b := by
  exact ⟨fun h => h1 (by have h9 := Int64.le_iff_toInt_le.mp h; omega), fun h => h2 (by have h9 := mt Int64.le_iff_toInt_le.mpr h; omega)⟩
theorem sf_sw1 {x q : Int32} {r : List (Int32 × wq_T)} {n : Int} (hq : q.toInt = n) (h1 : x.toInt = n → K1 L S w a b) (h2 : x.toInt ≠ n → wq_sw r K L (.inl (.int x) :: S) w a b) : wq_sw ((q, K1) :: r) K L (.inl (.int x) :: S) w a b := by
  unfold wq_sw
  exact ⟨fun h => h1 (by rw [h]; exact hq), fun h => h2 (fun z => h (Int32.toInt_inj.mp (by rw [z, hq])))⟩
theorem sf_sw0 {x : Int32} (h : K L S w a b) : wq_sw [] K L (.inl (.int x) :: S) w a b := by
  unfold wq_sw
  exact h
theorem sf_le {x y : Nat} {q : Prop} (h : Nat.ble x y = true) (hq : q) : wq_le x y q := by
  unfold wq_le
  rw [h]
  exact hq
theorem sf_ireturn {mc ms : Nat} {v : Int32} (h1 : Nat.ble a mc = true) (h2 : Nat.ble b ms = true) (hk : rt (some (.inl (.int v))) w) : wq_ireturn mc ms rt L [.inl (.int v)] w a b := sf_le h1 (sf_le h2 hk)
theorem sf_zreturn {mc ms : Nat} {v : Int32} (hv : 0 ≤ v.toInt ∧ v.toInt ≤ 1) (h1 : Nat.ble a mc = true) (h2 : Nat.ble b ms = true) (hk : rt (some (.inl (.int v))) w) : wq_zreturn mc ms rt L [.inl (.int v)] w a b := by
  refine ⟨?_, sf_le h1 (sf_le h2 hk)⟩
  have h0 := sf_z0
  have h9 : (1 : Int32).toInt = 1 := by decide
  rcases (show v.toInt = 0 ∨ v.toInt = 1 by omega) with h | h
  · exact Or.inl (Int32.toInt_inj.mp (by rw [h, h0]))
  · exact Or.inr (Int32.toInt_inj.mp (by rw [h, h9]))
theorem sf_lreturn {mc ms : Nat} {v : Int64} (h1 : Nat.ble a mc = true) (h2 : Nat.ble b ms = true) (hk : rt (some (.inl (.long v))) w) : wq_lreturn mc ms rt L [.inl (.long v)] w a b := sf_le h1 (sf_le h2 hk)
theorem sf_vreturn {mc ms : Nat} (h1 : Nat.ble a mc = true) (h2 : Nat.ble b ms = true) (hk : rt none w) : wq_vreturn mc ms rt L [] w a b := sf_le h1 (sf_le h2 hk)
theorem sf_throw {E mc ms : Nat} (h1 : Nat.ble (a + 1) mc = true) (h2 : Nat.ble (b + 6) ms = true) (hk : xt E w) : wq_throw E mc ms xt L [] w a b := sf_le h1 (sf_le h2 hk)
theorem sf_xout {E mc ms : Nat} (h1 : Nat.ble a mc = true) (h2 : Nat.ble b ms = true) (hk : xt E w) : wq_xout mc ms xt L E w a b := sf_le h1 (sf_le h2 hk)
theorem sf_xhh {E q i : Nat} {r : List (Nat × Nat × wq_T)} (h : Nat.beq E q = true) (h' : wq_d1 i L = L') (hk : K L' [] w a b) : wq_xh ((q, i, K) :: r) L E w a b := by
  unfold wq_xh
  rw [h, wq_nf_eq, h']
  exact hk
theorem sf_xhm {E : Nat} {q : Nat × Nat × wq_T} {r : List (Nat × Nat × wq_T)} (h : Nat.beq E q.1 = false) (hk : wq_xh r L E w a b) : wq_xh (q :: r) L E w a b := by
  unfold wq_xh
  rw [h]
  exact hk
theorem sf_sp {maxL : Nat} {t : (Option wq_V → wq_W → Prop) → (Nat → wq_W → Prop) → wq_T} {as : List wq_V} (hL : wq_ar 0 as = L) (hz : Nat.ble (wq_sm as) maxL = true) (h : t rt xt L [] w 0 0) : wq_sp maxL t as w rt xt := by
  unfold wq_sp
  rw [hz, hL]
  exact h
theorem sf_can {is : List Nat} (h : wq_pick is L = L') (hk : K L' S w a b) : wq_can is K L S w a b := by
  unfold wq_can
  rw [h]
  exact hk
theorem sf_rv {ci p m : Nat} {lo hi : Int} {sp : wq_S} {as : List wq_V} (hI : sf_I w) (ht : sf_t[p]? = some (4, ci, m, lo, hi)) (h : sp (.inl (.ref p) :: as) w rt xt) : wq_rv ci sp (.inl (.ref p) :: as) w rt xt := by
  obtain ⟨vs, h1, -, -⟩ := sf_obj hI ht
  unfold wq_rv
  simp only [h1, Nat.beq_refl, cond_true]
  exact h
theorem sf_m2 {f : Int32 → Int32 → Int32} {Rc Rs : Nat} {x y : Int32} (h0 : Nat.ble (wq_sm S) 8 = true) (h1 : Nat.ble a Rc = true) (h2 : Nat.ble b Rs = true) (hk : ∀ z : Int32, K L (.inl (.int z) :: S) w a b) : wq_m2 f Rc Rs K L (.inl (.int y) :: .inl (.int x) :: S) w a b := by
  show cond (Nat.ble (wq_sm S) 8) _ _
  rw [h0]
  exact sf_le h1 (sf_le h2 (hk _))
theorem sf_ml {f : Int64 → Int64 → Int64} {Rc Rs : Nat} {x y : Int64} (h0 : Nat.ble (wq_sm S) 8 = true) (h1 : Nat.ble a Rc = true) (h2 : Nat.ble b Rs = true) (hk : ∀ z : Int64, K L (.inl (.long z) :: S) w a b) : wq_ml f Rc Rs K L (.inl (.long y) :: .inl (.long x) :: S) w a b := by
  show cond (Nat.ble (wq_sm S) 8) _ _
  rw [h0]
  exact sf_le h1 (sf_le h2 (hk _))
theorem sf_call1 {sp : wq_S} {mc ms Rc Rs : Nat} {X : wq_L → Nat → wq_W → Nat → Nat → Prop} {v1 : wq_V} (h0 : Nat.ble (wq_sm S) 8 = true) (h1 : Nat.ble (a + mc) Rc = true) (h2 : Nat.ble (b + ms) Rs = true) (hk : sp [v1] w (fun r w' => K L (wq_tl r S) w' (a + mc) (b + ms)) (fun E w' => X L E w' (a + mc) (b + ms))) : wq_call sp 1 mc ms Rc Rs X K L (v1 :: S) w a b := by
  show cond (Nat.ble (wq_sm S) 8) _ _
  rw [h0]
  exact sf_le h1 (sf_le h2 hk)
theorem sf_call2 {sp : wq_S} {mc ms Rc Rs : Nat} {X : wq_L → Nat → wq_W → Nat → Nat → Prop} {v1 v2 : wq_V} (h0 : Nat.ble (wq_sm S) 8 = true) (h1 : Nat.ble (a + mc) Rc = true) (h2 : Nat.ble (b + ms) Rs = true) (hk : sp [v1, v2] w (fun r w' => K L (wq_tl r S) w' (a + mc) (b + ms)) (fun E w' => X L E w' (a + mc) (b + ms))) : wq_call sp 2 mc ms Rc Rs X K L (v2 :: v1 :: S) w a b := by
  show cond (Nat.ble (wq_sm S) 8) _ _
  rw [h0]
  exact sf_le h1 (sf_le h2 hk)
theorem sf_call3 {sp : wq_S} {mc ms Rc Rs : Nat} {X : wq_L → Nat → wq_W → Nat → Nat → Prop} {v1 v2 v3 : wq_V} (h0 : Nat.ble (wq_sm S) 8 = true) (h1 : Nat.ble (a + mc) Rc = true) (h2 : Nat.ble (b + ms) Rs = true) (hk : sp [v1, v2, v3] w (fun r w' => K L (wq_tl r S) w' (a + mc) (b + ms)) (fun E w' => X L E w' (a + mc) (b + ms))) : wq_call sp 3 mc ms Rc Rs X K L (v3 :: v2 :: v1 :: S) w a b := by
  show cond (Nat.ble (wq_sm S) 8) _ _
  rw [h0]
  exact sf_le h1 (sf_le h2 hk)
theorem sf_call4 {sp : wq_S} {mc ms Rc Rs : Nat} {X : wq_L → Nat → wq_W → Nat → Nat → Prop} {v1 v2 v3 v4 : wq_V} (h0 : Nat.ble (wq_sm S) 8 = true) (h1 : Nat.ble (a + mc) Rc = true) (h2 : Nat.ble (b + ms) Rs = true) (hk : sp [v1, v2, v3, v4] w (fun r w' => K L (wq_tl r S) w' (a + mc) (b + ms)) (fun E w' => X L E w' (a + mc) (b + ms))) : wq_call sp 4 mc ms Rc Rs X K L (v4 :: v3 :: v2 :: v1 :: S) w a b := by
  show cond (Nat.ble (wq_sm S) 8) _ _
  rw [h0]
  exact sf_le h1 (sf_le h2 hk)
theorem sf_call5 {sp : wq_S} {mc ms Rc Rs : Nat} {X : wq_L → Nat → wq_W → Nat → Nat → Prop} {v1 v2 v3 v4 v5 : wq_V} (h0 : Nat.ble (wq_sm S) 8 = true) (h1 : Nat.ble (a + mc) Rc = true) (h2 : Nat.ble (b + ms) Rs = true) (hk : sp [v1, v2, v3, v4, v5] w (fun r w' => K L (wq_tl r S) w' (a + mc) (b + ms)) (fun E w' => X L E w' (a + mc) (b + ms))) : wq_call sp 5 mc ms Rc Rs X K L (v5 :: v4 :: v3 :: v2 :: v1 :: S) w a b := by
  show cond (Nat.ble (wq_sm S) 8) _ _
  rw [h0]
  exact sf_le h1 (sf_le h2 hk)
theorem sf_call6 {sp : wq_S} {mc ms Rc Rs : Nat} {X : wq_L → Nat → wq_W → Nat → Nat → Prop} {v1 v2 v3 v4 v5 v6 : wq_V} (h0 : Nat.ble (wq_sm S) 8 = true) (h1 : Nat.ble (a + mc) Rc = true) (h2 : Nat.ble (b + ms) Rs = true) (hk : sp [v1, v2, v3, v4, v5, v6] w (fun r w' => K L (wq_tl r S) w' (a + mc) (b + ms)) (fun E w' => X L E w' (a + mc) (b + ms))) : wq_call sp 6 mc ms Rc Rs X K L (v6 :: v5 :: v4 :: v3 :: v2 :: v1 :: S) w a b := by
  show cond (Nat.ble (wq_sm S) 8) _ _
  rw [h0]
  exact sf_le h1 (sf_le h2 hk)
theorem sf_call7 {sp : wq_S} {mc ms Rc Rs : Nat} {X : wq_L → Nat → wq_W → Nat → Nat → Prop} {v1 v2 v3 v4 v5 v6 v7 : wq_V} (h0 : Nat.ble (wq_sm S) 8 = true) (h1 : Nat.ble (a + mc) Rc = true) (h2 : Nat.ble (b + ms) Rs = true) (hk : sp [v1, v2, v3, v4, v5, v6, v7] w (fun r w' => K L (wq_tl r S) w' (a + mc) (b + ms)) (fun E w' => X L E w' (a + mc) (b + ms))) : wq_call sp 7 mc ms Rc Rs X K L (v7 :: v6 :: v5 :: v4 :: v3 :: v2 :: v1 :: S) w a b := by
  show cond (Nat.ble (wq_sm S) 8) _ _
  rw [h0]
  exact sf_le h1 (sf_le h2 hk)
theorem sf_call8 {sp : wq_S} {mc ms Rc Rs : Nat} {X : wq_L → Nat → wq_W → Nat → Nat → Prop} {v1 v2 v3 v4 v5 v6 v7 v8 : wq_V} (h0 : Nat.ble (wq_sm S) 8 = true) (h1 : Nat.ble (a + mc) Rc = true) (h2 : Nat.ble (b + ms) Rs = true) (hk : sp [v1, v2, v3, v4, v5, v6, v7, v8] w (fun r w' => K L (wq_tl r S) w' (a + mc) (b + ms)) (fun E w' => X L E w' (a + mc) (b + ms))) : wq_call sp 8 mc ms Rc Rs X K L (v8 :: v7 :: v6 :: v5 :: v4 :: v3 :: v2 :: v1 :: S) w a b := by
  show cond (Nat.ble (wq_sm S) 8) _ _
  rw [h0]
  exact sf_le h1 (sf_le h2 hk)
theorem sf_call9 {sp : wq_S} {mc ms Rc Rs : Nat} {X : wq_L → Nat → wq_W → Nat → Nat → Prop} {v1 v2 v3 v4 v5 v6 v7 v8 v9 : wq_V} (h0 : Nat.ble (wq_sm S) 8 = true) (h1 : Nat.ble (a + mc) Rc = true) (h2 : Nat.ble (b + ms) Rs = true) (hk : sp [v1, v2, v3, v4, v5, v6, v7, v8, v9] w (fun r w' => K L (wq_tl r S) w' (a + mc) (b + ms)) (fun E w' => X L E w' (a + mc) (b + ms))) : wq_call sp 9 mc ms Rc Rs X K L (v9 :: v8 :: v7 :: v6 :: v5 :: v4 :: v3 :: v2 :: v1 :: S) w a b := by
  show cond (Nat.ble (wq_sm S) 8) _ _
  rw [h0]
  exact sf_le h1 (sf_le h2 hk)
theorem sf_call10 {sp : wq_S} {mc ms Rc Rs : Nat} {X : wq_L → Nat → wq_W → Nat → Nat → Prop} {v1 v2 v3 v4 v5 v6 v7 v8 v9 v10 : wq_V} (h0 : Nat.ble (wq_sm S) 8 = true) (h1 : Nat.ble (a + mc) Rc = true) (h2 : Nat.ble (b + ms) Rs = true) (hk : sp [v1, v2, v3, v4, v5, v6, v7, v8, v9, v10] w (fun r w' => K L (wq_tl r S) w' (a + mc) (b + ms)) (fun E w' => X L E w' (a + mc) (b + ms))) : wq_call sp 10 mc ms Rc Rs X K L (v10 :: v9 :: v8 :: v7 :: v6 :: v5 :: v4 :: v3 :: v2 :: v1 :: S) w a b := by
  show cond (Nat.ble (wq_sm S) 8) _ _
  rw [h0]
  exact sf_le h1 (sf_le h2 hk)
theorem sf_callv1 {sp : wq_S} {mc ms Rc Rs : Nat} {X : wq_L → Nat → wq_W → Nat → Nat → Prop} {v1 : wq_V} (h0 : Nat.ble (wq_sm S) 8 = true) (h1 : a + mc ≤ Rc) (h2 : b + ms ≤ Rs) (hk : sp [v1] w (fun r w' => K L (wq_tl r S) w' (a + mc) (b + ms)) (fun E w' => X L E w' (a + mc) (b + ms))) : wq_call sp 1 mc ms Rc Rs X K L (v1 :: S) w a b := by
  show cond (Nat.ble (wq_sm S) 8) _ _
  rw [h0]
  exact sf_le (Nat.ble_eq_true_of_le h1) (sf_le (Nat.ble_eq_true_of_le h2) hk)
theorem sf_callv2 {sp : wq_S} {mc ms Rc Rs : Nat} {X : wq_L → Nat → wq_W → Nat → Nat → Prop} {v1 v2 : wq_V} (h0 : Nat.ble (wq_sm S) 8 = true) (h1 : a + mc ≤ Rc) (h2 : b + ms ≤ Rs) (hk : sp [v1, v2] w (fun r w' => K L (wq_tl r S) w' (a + mc) (b + ms)) (fun E w' => X L E w' (a + mc) (b + ms))) : wq_call sp 2 mc ms Rc Rs X K L (v2 :: v1 :: S) w a b := by
  show cond (Nat.ble (wq_sm S) 8) _ _
  rw [h0]
  exact sf_le (Nat.ble_eq_true_of_le h1) (sf_le (Nat.ble_eq_true_of_le h2) hk)
theorem sf_callv3 {sp : wq_S} {mc ms Rc Rs : Nat} {X : wq_L → Nat → wq_W → Nat → Nat → Prop} {v1 v2 v3 : wq_V} (h0 : Nat.ble (wq_sm S) 8 = true) (h1 : a + mc ≤ Rc) (h2 : b + ms ≤ Rs) (hk : sp [v1, v2, v3] w (fun r w' => K L (wq_tl r S) w' (a + mc) (b + ms)) (fun E w' => X L E w' (a + mc) (b + ms))) : wq_call sp 3 mc ms Rc Rs X K L (v3 :: v2 :: v1 :: S) w a b := by
  show cond (Nat.ble (wq_sm S) 8) _ _
  rw [h0]
  exact sf_le (Nat.ble_eq_true_of_le h1) (sf_le (Nat.ble_eq_true_of_le h2) hk)
theorem sf_callv4 {sp : wq_S} {mc ms Rc Rs : Nat} {X : wq_L → Nat → wq_W → Nat → Nat → Prop} {v1 v2 v3 v4 : wq_V} (h0 : Nat.ble (wq_sm S) 8 = true) (h1 : a + mc ≤ Rc) (h2 : b + ms ≤ Rs) (hk : sp [v1, v2, v3, v4] w (fun r w' => K L (wq_tl r S) w' (a + mc) (b + ms)) (fun E w' => X L E w' (a + mc) (b + ms))) : wq_call sp 4 mc ms Rc Rs X K L (v4 :: v3 :: v2 :: v1 :: S) w a b := by
  show cond (Nat.ble (wq_sm S) 8) _ _
  rw [h0]
  exact sf_le (Nat.ble_eq_true_of_le h1) (sf_le (Nat.ble_eq_true_of_le h2) hk)
theorem sf_callv5 {sp : wq_S} {mc ms Rc Rs : Nat} {X : wq_L → Nat → wq_W → Nat → Nat → Prop} {v1 v2 v3 v4 v5 : wq_V} (h0 : Nat.ble (wq_sm S) 8 = true) (h1 : a + mc ≤ Rc) (h2 : b + ms ≤ Rs) (hk : sp [v1, v2, v3, v4, v5] w (fun r w' => K L (wq_tl r S) w' (a + mc) (b + ms)) (fun E w' => X L E w' (a + mc) (b + ms))) : wq_call sp 5 mc ms Rc Rs X K L (v5 :: v4 :: v3 :: v2 :: v1 :: S) w a b := by
  show cond (Nat.ble (wq_sm S) 8) _ _
  rw [h0]
  exact sf_le (Nat.ble_eq_true_of_le h1) (sf_le (Nat.ble_eq_true_of_le h2) hk)
theorem sf_callv6 {sp : wq_S} {mc ms Rc Rs : Nat} {X : wq_L → Nat → wq_W → Nat → Nat → Prop} {v1 v2 v3 v4 v5 v6 : wq_V} (h0 : Nat.ble (wq_sm S) 8 = true) (h1 : a + mc ≤ Rc) (h2 : b + ms ≤ Rs) (hk : sp [v1, v2, v3, v4, v5, v6] w (fun r w' => K L (wq_tl r S) w' (a + mc) (b + ms)) (fun E w' => X L E w' (a + mc) (b + ms))) : wq_call sp 6 mc ms Rc Rs X K L (v6 :: v5 :: v4 :: v3 :: v2 :: v1 :: S) w a b := by
  show cond (Nat.ble (wq_sm S) 8) _ _
  rw [h0]
  exact sf_le (Nat.ble_eq_true_of_le h1) (sf_le (Nat.ble_eq_true_of_le h2) hk)
theorem sf_callv7 {sp : wq_S} {mc ms Rc Rs : Nat} {X : wq_L → Nat → wq_W → Nat → Nat → Prop} {v1 v2 v3 v4 v5 v6 v7 : wq_V} (h0 : Nat.ble (wq_sm S) 8 = true) (h1 : a + mc ≤ Rc) (h2 : b + ms ≤ Rs) (hk : sp [v1, v2, v3, v4, v5, v6, v7] w (fun r w' => K L (wq_tl r S) w' (a + mc) (b + ms)) (fun E w' => X L E w' (a + mc) (b + ms))) : wq_call sp 7 mc ms Rc Rs X K L (v7 :: v6 :: v5 :: v4 :: v3 :: v2 :: v1 :: S) w a b := by
  show cond (Nat.ble (wq_sm S) 8) _ _
  rw [h0]
  exact sf_le (Nat.ble_eq_true_of_le h1) (sf_le (Nat.ble_eq_true_of_le h2) hk)
theorem sf_callv8 {sp : wq_S} {mc ms Rc Rs : Nat} {X : wq_L → Nat → wq_W → Nat → Nat → Prop} {v1 v2 v3 v4 v5 v6 v7 v8 : wq_V} (h0 : Nat.ble (wq_sm S) 8 = true) (h1 : a + mc ≤ Rc) (h2 : b + ms ≤ Rs) (hk : sp [v1, v2, v3, v4, v5, v6, v7, v8] w (fun r w' => K L (wq_tl r S) w' (a + mc) (b + ms)) (fun E w' => X L E w' (a + mc) (b + ms))) : wq_call sp 8 mc ms Rc Rs X K L (v8 :: v7 :: v6 :: v5 :: v4 :: v3 :: v2 :: v1 :: S) w a b := by
  show cond (Nat.ble (wq_sm S) 8) _ _
  rw [h0]
  exact sf_le (Nat.ble_eq_true_of_le h1) (sf_le (Nat.ble_eq_true_of_le h2) hk)
theorem sf_callv9 {sp : wq_S} {mc ms Rc Rs : Nat} {X : wq_L → Nat → wq_W → Nat → Nat → Prop} {v1 v2 v3 v4 v5 v6 v7 v8 v9 : wq_V} (h0 : Nat.ble (wq_sm S) 8 = true) (h1 : a + mc ≤ Rc) (h2 : b + ms ≤ Rs) (hk : sp [v1, v2, v3, v4, v5, v6, v7, v8, v9] w (fun r w' => K L (wq_tl r S) w' (a + mc) (b + ms)) (fun E w' => X L E w' (a + mc) (b + ms))) : wq_call sp 9 mc ms Rc Rs X K L (v9 :: v8 :: v7 :: v6 :: v5 :: v4 :: v3 :: v2 :: v1 :: S) w a b := by
  show cond (Nat.ble (wq_sm S) 8) _ _
  rw [h0]
  exact sf_le (Nat.ble_eq_true_of_le h1) (sf_le (Nat.ble_eq_true_of_le h2) hk)
theorem sf_callv10 {sp : wq_S} {mc ms Rc Rs : Nat} {X : wq_L → Nat → wq_W → Nat → Nat → Prop} {v1 v2 v3 v4 v5 v6 v7 v8 v9 v10 : wq_V} (h0 : Nat.ble (wq_sm S) 8 = true) (h1 : a + mc ≤ Rc) (h2 : b + ms ≤ Rs) (hk : sp [v1, v2, v3, v4, v5, v6, v7, v8, v9, v10] w (fun r w' => K L (wq_tl r S) w' (a + mc) (b + ms)) (fun E w' => X L E w' (a + mc) (b + ms))) : wq_call sp 10 mc ms Rc Rs X K L (v10 :: v9 :: v8 :: v7 :: v6 :: v5 :: v4 :: v3 :: v2 :: v1 :: S) w a b := by
  show cond (Nat.ble (wq_sm S) 8) _ _
  rw [h0]
  exact sf_le (Nat.ble_eq_true_of_le h1) (sf_le (Nat.ble_eq_true_of_le h2) hk)
theorem sf_slen {N : Nat} (hN : N ≤ 4096) (hk : ∀ z : Int32, z.toInt = (N : Int) → K L (.inl (.int z) :: S) w a b) : wq_slen N K L (.inl (.ref 100000) :: S) w a b := hk _ (nI_toInt (by omega))
theorem sf_sld {N : Nat} {xs : Nat → Int32} {i : Int32} (h : 0 ≤ i.toInt ∧ i.toInt < (N : Int)) (hk : ∀ v : Int32, K L (.inl (.int v) :: S) w a b) : wq_sld N xs K L (.inl (.int i) :: .inl (.ref 100000) :: S) w a b := ⟨i.toInt.toNat, sf_nI h.1, by omega, hk _⟩
theorem sf_sldk {N k : Nat} {xs : Nat → Int32} {i x : Int32} (hx : 0 ≤ x.toInt) (hi : i.toInt = x.toInt + k) (h : i.toInt < (N : Int)) (hk : K L (.inl (.int (xs (x.toInt.toNat + k))) :: S) w a b) : wq_sld N xs K L (.inl (.int i) :: .inl (.ref 100000) :: S) w a b := ⟨x.toInt.toNat + k, by rw [sf_nI (x := i) (by omega)]; congr 1; omega, by omega, hk⟩
theorem sf_lend {v : Int32} (h : v.toInt = 1) (h1 : a ≤ 601024) (h2 : b ≤ 7293034) : wq_lend L [.inl (.int v)] w a b := ⟨Int32.toInt_inj.mp (by rw [h]; decide), sf_le (Nat.ble_eq_true_of_le h1) (sf_le (Nat.ble_eq_true_of_le h2) trivial)⟩
theorem sf_getr {ci j p m q : Nat} {lo hi lo' hi' : Int} (hI : sf_I w) (ht : sf_t[p]? = some (4, ci, m, lo, hi)) (ho : (sf_o ci)[j]? = some (0, q, lo', hi')) (hk : K L (.inl (.ref q) :: S) w a b) : wq_get ci j K L (.inl (.ref p) :: S) w a b := by
  obtain ⟨vs, h1, h2, h3⟩ := sf_obj hI ht
  have hj : j < vs.length := by
    rw [h2]
    exact (List.getElem?_eq_some_iff.mp ho).1
  have h4 : vs[j]? = some vs[j] := List.getElem?_eq_getElem hj
  have h5 : vs[j] = .inl (.ref q) := h3 j _ _ ho h4
  unfold wq_get
  simp only [h1, Nat.beq_refl, cond_true, h4, h5]
  exact hk
theorem sf_geti {ci j p m q : Nat} {lo hi lo' hi' : Int} (hI : sf_I w) (ht : sf_t[p]? = some (4, ci, m, lo', hi')) (ho : (sf_o ci)[j]? = some (1, q, lo, hi)) (hk : ∀ v : Int32, lo ≤ v.toInt → v.toInt ≤ hi → v.toInt = (sf_f w p j).toInt → K L (.inl (.int v) :: S) w a b) : wq_get ci j K L (.inl (.ref p) :: S) w a b := by
  obtain ⟨vs, h1, h2, h3⟩ := sf_obj hI ht
  have hj : j < vs.length := by
    rw [h2]
    exact (List.getElem?_eq_some_iff.mp ho).1
  have h4 : vs[j]? = some vs[j] := List.getElem?_eq_getElem hj
  obtain ⟨x, h5, h6, h7⟩ := h3 j _ _ ho h4
  have h8 : sf_f w p j = x := by
    unfold sf_f
    simp only [h1, h4, h5]
    rfl
  unfold wq_get
  simp only [h1, Nat.beq_refl, cond_true, h4, h5]
  exact hk x h6 h7 (by rw [h8])
theorem sf_getl {ci j p m q : Nat} {lo hi lo' hi' : Int} (hI : sf_I w) (ht : sf_t[p]? = some (4, ci, m, lo', hi')) (ho : (sf_o ci)[j]? = some (2, q, lo, hi)) (hk : ∀ v : Int64, K L (.inl (.long v) :: S) w a b) : wq_get ci j K L (.inl (.ref p) :: S) w a b := by
  obtain ⟨vs, h1, h2, h3⟩ := sf_obj hI ht
  have hj : j < vs.length := by
    rw [h2]
    exact (List.getElem?_eq_some_iff.mp ho).1
  have h4 : vs[j]? = some vs[j] := List.getElem?_eq_getElem hj
  obtain ⟨x, h5⟩ := h3 j _ _ ho h4
  unfold wq_get
  simp only [h1, Nat.beq_refl, cond_true, h4, h5]
  exact hk x
theorem sf_iald {i : Int32} {p n m : Nat} {lo hi : Int} (hI : sf_I w) (ht : sf_t[p]? = some (0, n, m, lo, hi)) (h : 0 ≤ i.toInt ∧ i.toInt < (n : Int)) (hk : ∀ v : Int32, lo ≤ v.toInt → v.toInt ≤ hi → v.toInt = (sf_a w p i.toInt.toNat).toInt → K L (.inl (.int v) :: S) w a b) : wq_iald K L (.inl (.int i) :: .inl (.ref p) :: S) w a b := by
  obtain ⟨h1, h2, h3⟩ := sf_arr hI ht
  have h4 := h2 i.toInt.toNat (by omega)
  unfold wq_iald
  simp only [h1]
  exact sf_lim h3 ⟨i.toInt.toNat, sf_nI h.1, by omega, hk _ h4.1 h4.2 rfl⟩
theorem sf_zald {i : Int32} {p n m : Nat} {lo hi : Int} (hI : sf_I w) (ht : sf_t[p]? = some (2, n, m, lo, hi)) (h : 0 ≤ i.toInt ∧ i.toInt < (n : Int)) (hk : ∀ v : Int32, lo ≤ v.toInt → v.toInt ≤ hi → v.toInt = (sf_a w p i.toInt.toNat).toInt → K L (.inl (.int v) :: S) w a b) : wq_zald K L (.inl (.int i) :: .inl (.ref p) :: S) w a b := by
  obtain ⟨h1, h2, h3⟩ := sf_arz hI ht
  have h4 := h2 i.toInt.toNat (by omega)
  unfold wq_zald
  simp only [h1]
  exact sf_lim h3 ⟨i.toInt.toNat, sf_nI h.1, by omega, hk _ h4.1 h4.2 rfl⟩
theorem sf_lald {i : Int32} {p n m : Nat} {lo hi : Int} (hI : sf_I w) (ht : sf_t[p]? = some (1, n, m, lo, hi)) (h : 0 ≤ i.toInt ∧ i.toInt < (n : Int)) (hk : ∀ v : Int64, v.toInt = (sf_l w p i.toInt.toNat).toInt → K L (.inl (.long v) :: S) w a b) : wq_lald K L (.inl (.int i) :: .inl (.ref p) :: S) w a b := by
  obtain ⟨h1, h3⟩ := sf_arl hI ht
  unfold wq_lald
  simp only [h1]
  exact sf_lim h3 ⟨i.toInt.toNat, sf_nI h.1, by omega, hk _ rfl⟩
theorem sf_aald {i : Int32} {p n m : Nat} {lo hi : Int} (hI : sf_I w) (ht : sf_t[p]? = some (3, n, m, lo, hi)) (h : 0 ≤ i.toInt ∧ i.toInt < (n : Int)) (hk : K L (.inr (p, i.toInt.toNat) :: S) w a b) : wq_aald K L (.inl (.int i) :: .inl (.ref p) :: S) w a b := by
  obtain ⟨⟨h1, h2⟩, h3⟩ := sf_grd hI ht
  unfold wq_aald
  simp only [h1]
  exact sf_lim h3.1 ⟨i.toInt.toNat, sf_nI h.1, by omega, hk⟩
theorem sf_gald {i : Int32} {p r n m : Nat} {lo hi : Int} (hI : sf_I w) (ht : sf_t[p]? = some (3, n, m, lo, hi)) (hr : r < n) (h : 0 ≤ i.toInt ∧ i.toInt < (m : Int)) (hk : ∀ v : Int32, lo ≤ v.toInt → v.toInt ≤ hi → v.toInt = (sf_g w p r i.toInt.toNat).toInt → K L (.inl (.int v) :: S) w a b) : wq_iald K L (.inl (.int i) :: .inr (p, r) :: S) w a b := by
  obtain ⟨⟨h1, h2⟩, h3⟩ := sf_grd hI ht
  have h4 := h2 r i.toInt.toNat hr (by omega)
  unfold wq_iald
  simp only [h1]
  exact sf_lim h3.2 ⟨i.toInt.toNat, sf_nI h.1, by omega, hr, hk _ h4.1 h4.2 rfl⟩
theorem sf_uv {f : Nat → Int32} {lo hi : Int} {n j : Nat} {v : Int32} (h : ∀ i, i < n → lo ≤ (f i).toInt ∧ (f i).toInt ≤ hi) (hv : lo ≤ v.toInt ∧ v.toInt ≤ hi) : ∀ i, i < n → lo ≤ (upd f j v i).toInt ∧ (upd f j v i).toInt ≤ hi := by
  intro i hi9
  unfold upd
  split
  · exact hv
  · exact h i hi9
theorem sf_iastR {i v : Int32} {p n m : Nat} {lo hi : Int} (hI : sf_I w) (hs : sf_m M w0 w) (ht : sf_t[p]? = some (0, n, m, lo, hi)) (h : 0 ≤ i.toInt ∧ i.toInt < (n : Int)) (hv : lo ≤ v.toInt ∧ v.toInt ≤ hi) (hM : M.contains p = true) (hR : ∀ w', sf_m [p] w w' → sf_a w' p = upd (sf_a w p) i.toInt.toNat v → sf_R w')
    (hk : ∀ w', sf_I w' → sf_m M w0 w' → sf_m [p] w w' → sf_a w' p = upd (sf_a w p) i.toInt.toNat v → K L S w' a b) : wq_iast K L (.inl (.int v) :: .inl (.int i) :: .inl (.ref p) :: S) w a b := by
  obtain ⟨h1, h2, h3⟩ := sf_arr hI ht
  have hm : sf_m [p] w (wq_u w p (.inl (0, (n, .inl (upd (sf_a w p) i.toInt.toNat v))))) := sf_m_arr h1
  have ha : sf_a (wq_u w p (.inl (0, (n, .inl (upd (sf_a w p) i.toInt.toNat v))))) p = upd (sf_a w p) i.toInt.toNat v := by
    funext x
    show (match wq_n (wq_u w p (.inl (0, (n, .inl (upd (sf_a w p) i.toInt.toNat v))))) p with | some (.inl (_, (_, .inl f))) => f x | _ => 0) = _
    rw [wq_n_u h1]
  unfold wq_iast
  simp only [h1]
  refine sf_lim h3 ⟨i.toInt.toNat, sf_nI h.1, by omega, ?_⟩
  rw [wq_nf_eq]
  exact hk _ (sf_upd hI ht h1 ⟨_, rfl, sf_uv h2 hv⟩ (hR _ hm ha)) (sf_mt hs hm (sf_in1 hM)) hm ha
theorem sf_iast {i v : Int32} {p n m : Nat} {lo hi : Int} (hI : sf_I w) (hs : sf_m M w0 w) (ht : sf_t[p]? = some (0, n, m, lo, hi)) (h : 0 ≤ i.toInt ∧ i.toInt < (n : Int)) (hv : lo ≤ v.toInt ∧ v.toInt ≤ hi) (hM : M.contains p = true) (hr : sf_rel.contains p = false)
    (hk : ∀ w', sf_I w' → sf_m M w0 w' → sf_m [p] w w' → sf_a w' p = upd (sf_a w p) i.toInt.toNat v → K L S w' a b) : wq_iast K L (.inl (.int v) :: .inl (.int i) :: .inl (.ref p) :: S) w a b :=
  sf_iastR hI hs ht h hv hM (fun w' h1 _ => sf_R_m hI.2 h1 (sf_r1 hr)) hk
theorem sf_nar {v : Int32} (h : 0 ≤ v.toInt ∧ v.toInt ≤ 1) : vp_nar .boolean v = v := by
  have h0 := sf_z0
  have h9 : (1 : Int32).toInt = 1 := by decide
  rcases (show v.toInt = 0 ∨ v.toInt = 1 by omega) with h | h
  · have : v = 0 := Int32.toInt_inj.mp (by rw [h, h0])
    subst this
    decide
  · have : v = 1 := Int32.toInt_inj.mp (by rw [h, h9])
    subst this
    decide
theorem sf_zastR {i v : Int32} {p n m : Nat} (hI : sf_I w) (hs : sf_m M w0 w) (ht : sf_t[p]? = some (2, n, m, 0, 1)) (h : 0 ≤ i.toInt ∧ i.toInt < (n : Int)) (hv : 0 ≤ v.toInt ∧ v.toInt ≤ 1) (hM : M.contains p = true) (hR : ∀ w', sf_m [p] w w' → sf_a w' p = upd (sf_a w p) i.toInt.toNat v → sf_R w')
    (hk : ∀ w', sf_I w' → sf_m M w0 w' → sf_m [p] w w' → sf_a w' p = upd (sf_a w p) i.toInt.toNat v → K L S w' a b) : wq_zast K L (.inl (.int v) :: .inl (.int i) :: .inl (.ref p) :: S) w a b := by
  obtain ⟨h1, h2, h3⟩ := sf_arz hI ht
  have hm : sf_m [p] w (wq_u w p (.inl (2, (n, .inl (upd (sf_a w p) i.toInt.toNat v))))) := sf_m_arr h1
  have ha : sf_a (wq_u w p (.inl (2, (n, .inl (upd (sf_a w p) i.toInt.toNat v))))) p = upd (sf_a w p) i.toInt.toNat v := by
    funext x
    show (match wq_n (wq_u w p (.inl (2, (n, .inl (upd (sf_a w p) i.toInt.toNat v))))) p with | some (.inl (_, (_, .inl f))) => f x | _ => 0) = _
    rw [wq_n_u h1]
  unfold wq_zast
  simp only [h1]
  refine sf_lim h3 ⟨i.toInt.toNat, sf_nI h.1, by omega, ?_⟩
  rw [wq_nf_eq, sf_nar hv]
  exact hk _ (sf_upd hI ht h1 ⟨_, rfl, sf_uv h2 hv⟩ (hR _ hm ha)) (sf_mt hs hm (sf_in1 hM)) hm ha
theorem sf_zast {i v : Int32} {p n m : Nat} (hI : sf_I w) (hs : sf_m M w0 w) (ht : sf_t[p]? = some (2, n, m, 0, 1)) (h : 0 ≤ i.toInt ∧ i.toInt < (n : Int)) (hv : 0 ≤ v.toInt ∧ v.toInt ≤ 1) (hM : M.contains p = true) (hr : sf_rel.contains p = false)
    (hk : ∀ w', sf_I w' → sf_m M w0 w' → sf_m [p] w w' → sf_a w' p = upd (sf_a w p) i.toInt.toNat v → K L S w' a b) : wq_zast K L (.inl (.int v) :: .inl (.int i) :: .inl (.ref p) :: S) w a b :=
  sf_zastR hI hs ht h hv hM (fun w' h1 _ => sf_R_m hI.2 h1 (sf_r1 hr)) hk
theorem sf_last {i : Int32} {v : Int64} {p n m : Nat} {lo hi : Int} (hI : sf_I w) (hs : sf_m M w0 w) (ht : sf_t[p]? = some (1, n, m, lo, hi)) (h : 0 ≤ i.toInt ∧ i.toInt < (n : Int)) (hM : M.contains p = true) (hr : sf_rel.contains p = false)
    (hk : ∀ w', sf_I w' → sf_m M w0 w' → sf_m [p] w w' → sf_l w' p = vp_updL (sf_l w p) i.toInt.toNat v → K L S w' a b) : wq_last K L (.inl (.long v) :: .inl (.int i) :: .inl (.ref p) :: S) w a b := by
  obtain ⟨h1, h3⟩ := sf_arl hI ht
  have hm : sf_m [p] w (wq_u w p (.inl (1, (n, .inr (.inl (vp_updL (sf_l w p) i.toInt.toNat v)))))) := sf_m_arr h1
  have ha : sf_l (wq_u w p (.inl (1, (n, .inr (.inl (vp_updL (sf_l w p) i.toInt.toNat v)))))) p = vp_updL (sf_l w p) i.toInt.toNat v := by
    funext x
    show (match wq_n (wq_u w p (.inl (1, (n, .inr (.inl (vp_updL (sf_l w p) i.toInt.toNat v)))))) p with | some (.inl (_, (_, .inr (.inl f)))) => f x | _ => 0) = _
    rw [wq_n_u h1]
  unfold wq_last
  simp only [h1]
  refine sf_lim h3 ⟨i.toInt.toNat, sf_nI h.1, by omega, ?_⟩
  rw [wq_nf_eq]
  exact hk _ (sf_upd hI ht h1 ⟨_, rfl⟩ (sf_R_m hI.2 hm (sf_r1 hr))) (sf_mt hs hm (sf_in1 hM)) hm ha
theorem sf_gast {i v : Int32} {p r n m : Nat} {lo hi : Int} (hI : sf_I w) (hs : sf_m M w0 w) (ht : sf_t[p]? = some (3, n, m, lo, hi)) (hr9 : r < n) (h : 0 ≤ i.toInt ∧ i.toInt < (m : Int)) (hv : lo ≤ v.toInt ∧ v.toInt ≤ hi) (hM : M.contains p = true) (hr : sf_rel.contains p = false)
    (hk : ∀ w', sf_I w' → sf_m M w0 w' → sf_m [p] w w' → sf_g w' p = wq_up2 (sf_g w p) r i.toInt.toNat v → K L S w' a b) : wq_iast K L (.inl (.int v) :: .inl (.int i) :: .inr (p, r) :: S) w a b := by
  obtain ⟨⟨h1, h2⟩, h3⟩ := sf_grd hI ht
  have hm : sf_m [p] w (wq_u w p (.inr (.inr (n, m, wq_up2 (sf_g w p) r i.toInt.toNat v)))) := sf_m_grd h1
  have ha : sf_g (wq_u w p (.inr (.inr (n, m, wq_up2 (sf_g w p) r i.toInt.toNat v)))) p = wq_up2 (sf_g w p) r i.toInt.toNat v := by
    funext x y
    show (match wq_n (wq_u w p (.inr (.inr (n, m, wq_up2 (sf_g w p) r i.toInt.toNat v)))) p with | some (.inr (.inr (_, _, f))) => f x y | _ => 0) = _
    rw [wq_n_u h1]
  unfold wq_iast
  simp only [h1]
  refine sf_lim h3.2 ⟨i.toInt.toNat, sf_nI h.1, by omega, hr9, ?_⟩
  rw [wq_nf_eq]
  refine hk _ (sf_upd hI ht h1 ⟨_, rfl, ?_⟩ (sf_R_m hI.2 hm (sf_r1 hr))) (sf_mt hs hm (sf_in1 hM)) hm ha
  intro x y hx hy
  show lo ≤ (wq_up2 (sf_g w p) r i.toInt.toNat v x y).toInt ∧ (wq_up2 (sf_g w p) r i.toInt.toNat v x y).toInt ≤ hi
  unfold wq_up2
  split
  · split
    · exact hv
    · exact h2 x y hx hy
  · exact h2 x y hx hy
theorem sf_con2 {p q x : Nat} (h : ([p, q] : List Nat).contains x = false) : x ≠ p ∧ x ≠ q := by
  constructor <;> (intro z; subst z; simp at h)
theorem sf_m_obj {p ci j : Nat} {vs : List wq_V} {v : wq_V} (h0 : wq_n w p = some (.inr (.inl (ci, vs)))) : sf_m [p, 1000 + 100 * p + j] w (wq_u w p (.inr (.inl (ci, vs.set j v)))) := by
  refine ⟨fun q hq => wq_n_ne (sf_con2 hq).1, fun q x hx => ?_⟩
  unfold sf_f
  by_cases hqp : q = p
  · subst hqp
    rw [wq_n_u h0, h0]
    have hj : j ≠ x := fun z => (sf_con2 hx).2 (by rw [z])
    show sf_fo (vs.set j v)[x]? = sf_fo vs[x]?
    rw [List.getElem?_set_ne hj]
  · rw [wq_n_ne hqp]
theorem sf_E_set {ci j m : Nat} {lo hi : Int} {vs : List wq_V} {v : wq_V} {z : Nat × Nat × Int × Int} (h1 : vs.length = (sf_o ci).length) (h2 : ∀ (j : Nat) (z : Nat × Nat × Int × Int) (v : wq_V), (sf_o ci)[j]? = some z → vs[j]? = some v → sf_fv z v) (ho : (sf_o ci)[j]? = some z) (hv : sf_fv z v) : sf_E (4, ci, m, lo, hi) (.inr (.inl (ci, vs.set j v))) := by
  refine ⟨vs.set j v, rfl, by rw [List.length_set]; exact h1, ?_⟩
  intro x z' v' hz hv'
  by_cases hx : j = x
  · subst hx
    have hj : j < vs.length := by
      rw [h1]
      exact (List.getElem?_eq_some_iff.mp ho).1
    rw [List.getElem?_set_self hj] at hv'
    cases hv'
    have hz : (sf_o ci)[j]? = some z' := hz
    rw [ho] at hz
    cases hz
    exact hv
  · rw [List.getElem?_set_ne hx] at hv'
    exact h2 x z' v' hz hv'
theorem sf_putiR {ci j p m q : Nat} {lo hi lo' hi' : Int} {v : Int32} (hI : sf_I w) (hs : sf_m M w0 w) (ht : sf_t[p]? = some (4, ci, m, lo', hi')) (ho : (sf_o ci)[j]? = some (1, q, lo, hi)) (hv : lo ≤ v.toInt ∧ v.toInt ≤ hi) (hM : M.contains p = true) (hM2 : M.contains (1000 + 100 * p + j) = true) (hR : ∀ w', sf_m [p, 1000 + 100 * p + j] w w' → sf_f w' p j = v → sf_R w')
    (hk : ∀ w', sf_I w' → sf_m M w0 w' → sf_m [p, 1000 + 100 * p + j] w w' → sf_f w' p j = v → K L S w' a b) : wq_put ci j wq_isI K L (.inl (.int v) :: .inl (.ref p) :: S) w a b := by
  obtain ⟨vs, h1, h2, h3⟩ := sf_obj hI ht
  have hj : j < vs.length := by
    rw [h2]
    exact (List.getElem?_eq_some_iff.mp ho).1
  have hm : sf_m [p, 1000 + 100 * p + j] w (wq_u w p (.inr (.inl (ci, vs.set j (.inl (.int v)))))) := sf_m_obj h1
  have hf : sf_f (wq_u w p (.inr (.inl (ci, vs.set j (.inl (.int v)))))) p j = v := by
    unfold sf_f
    rw [wq_n_u h1]
    show sf_fo (vs.set j (.inl (.int v)))[j]? = v
    rw [List.getElem?_set_self hj]
    rfl
  unfold wq_put
  simp only [h1]
  have hc : (Nat.beq ci ci && (wq_isI (.inl (.int v)) && Nat.blt j vs.length)) = true := by
    rw [Nat.beq_refl, Nat.blt_eq.mpr hj]
    rfl
  rw [hc, cond_true, wq_nf_eq, wq_nf_eq]
  exact hk _ (sf_upd hI ht h1 (sf_E_set h2 h3 ho ⟨v, rfl, hv⟩) (hR _ hm hf)) (sf_mt hs hm (sf_in2 hM hM2)) hm hf
theorem sf_r2 {p j : Nat} (hp : sf_rel.contains p = false) (h : sf_rel.contains (1000 + 100 * p + j) = false) : sf_rel.all (fun k => !([p, 1000 + 100 * p + j] : List Nat).contains k) = true := by
  refine List.all_eq_true.mpr fun k hk => ?_
  have h1 : k ≠ p := fun z => by
    subst z
    rw [List.contains_iff_mem.mpr hk] at hp
    cases hp
  have h2 : k ≠ 1000 + 100 * p + j := fun z => by
    rw [← z, List.contains_iff_mem.mpr hk] at h
    cases h
  simp [h1, h2]
theorem sf_np {p ci m : Nat} {lo hi : Int} (ht : sf_t[p]? = some (4, ci, m, lo, hi)) : sf_rel.contains p = false := by
  have h : ∀ q ∈ sf_rel, (sf_t[q]?).map (fun t => decide (t.1 = 4)) ≠ some true := by decide +kernel
  cases hc : sf_rel.contains p with
  | false => rfl
  | true =>
    have h1 := h p (List.contains_iff_mem.mp hc)
    rw [ht] at h1
    exact absurd rfl h1
theorem sf_puti {ci j p m q : Nat} {lo hi lo' hi' : Int} {v : Int32} (hI : sf_I w) (hs : sf_m M w0 w) (ht : sf_t[p]? = some (4, ci, m, lo', hi')) (ho : (sf_o ci)[j]? = some (1, q, lo, hi)) (hv : lo ≤ v.toInt ∧ v.toInt ≤ hi) (hM : M.contains p = true) (hM2 : M.contains (1000 + 100 * p + j) = true) (hr : sf_rel.contains (1000 + 100 * p + j) = false)
    (hk : ∀ w', sf_I w' → sf_m M w0 w' → sf_m [p, 1000 + 100 * p + j] w w' → sf_f w' p j = v → K L S w' a b) : wq_put ci j wq_isI K L (.inl (.int v) :: .inl (.ref p) :: S) w a b :=
  sf_putiR hI hs ht ho hv hM hM2 (fun w' h1 _ => sf_R_m hI.2 h1 (sf_r2 (sf_np ht) hr)) hk
theorem sf_putl {ci j p m q : Nat} {lo hi lo' hi' : Int} {v : Int64} (hI : sf_I w) (hs : sf_m M w0 w) (ht : sf_t[p]? = some (4, ci, m, lo', hi')) (ho : (sf_o ci)[j]? = some (2, q, lo, hi)) (hM : M.contains p = true) (hM2 : M.contains (1000 + 100 * p + j) = true) (hr : sf_rel.contains (1000 + 100 * p + j) = false)
    (hk : ∀ w', sf_I w' → sf_m M w0 w' → sf_m [p, 1000 + 100 * p + j] w w' → True → K L S w' a b) : wq_put ci j wq_isL K L (.inl (.long v) :: .inl (.ref p) :: S) w a b := by
  obtain ⟨vs, h1, h2, h3⟩ := sf_obj hI ht
  have hj : j < vs.length := by
    rw [h2]
    exact (List.getElem?_eq_some_iff.mp ho).1
  have hm : sf_m [p, 1000 + 100 * p + j] w (wq_u w p (.inr (.inl (ci, vs.set j (.inl (.long v)))))) := sf_m_obj h1
  unfold wq_put
  simp only [h1]
  have hc : (Nat.beq ci ci && (wq_isL (.inl (.long v)) && Nat.blt j vs.length)) = true := by
    rw [Nat.beq_refl, Nat.blt_eq.mpr hj]
    rfl
  rw [hc, cond_true, wq_nf_eq, wq_nf_eq]
  exact hk _ (sf_upd hI ht h1 (sf_E_set h2 h3 ho ⟨v, rfl⟩) (sf_R_m hI.2 hm (sf_r2 (sf_np ht) hr))) (sf_mt hs hm (sf_in2 hM hM2)) hm trivial
theorem sf_cl {x : Int32} (h : 0 ≤ x.toInt) : (x.toNatClampNeg : Int) = x.toInt := by
  show ((x.toInt.toNat : Nat) : Int) = x.toInt
  omega
theorem sf_cpy {p q n0 m0 n1 m1 : Nat} {sp dp n : Int32} {lo hi lo' hi' : Int} (hI : sf_I w) (hs : sf_m M w0 w) (ht : sf_t[p]? = some (0, n0, m0, lo, hi)) (ht1 : sf_t[q]? = some (0, n1, m1, lo', hi')) (hpq : p ≠ q) (h1 : 0 ≤ sp.toInt ∧ 0 ≤ dp.toInt ∧ 0 ≤ n.toInt) (h2 : sp.toInt + n.toInt ≤ n0) (h3 : dp.toInt + n.toInt ≤ n1) (h0 : Nat.ble (wq_sm S) 8 = true) (hM : M.contains q = true) (hr : sf_rel.contains q = false) (hlo : lo' ≤ lo ∧ hi ≤ hi')
    (hk : ∀ w', sf_I w' → sf_m M w0 w' → sf_m [q] w w' → True → K L S w' a b) : wq_cpy K L (.inl (.int n) :: .inl (.int dp) :: .inl (.ref q) :: .inl (.int sp) :: .inl (.ref p) :: S) w a b := by
  obtain ⟨a1, a2, a3⟩ := sf_arr hI ht
  obtain ⟨b1, b2, b3⟩ := sf_arr hI ht1
  have c1 := sf_cl h1.1
  have c2 := sf_cl h1.2.1
  have c3 := sf_cl h1.2.2
  have hm : sf_m [q] w (wq_u w q (.inl (0, (n1, .inl (va_cpy (sf_a w p) (sf_a w q) sp.toNatClampNeg dp.toNatClampNeg n.toNatClampNeg))))) := sf_m_arr b1
  have hz := sf_z0
  have nn : ∀ x : Int32, 0 ≤ x.toInt → ¬ x < 0 := fun x h h9 => by have h8 := Int32.lt_iff_toInt_lt.mp h9; omega
  unfold wq_cpy
  simp only [a1, b1]
  refine ⟨hpq, nn _ h1.1, nn _ h1.2.1, nn _ h1.2.2, by omega, by omega, h0, ?_⟩
  rw [wq_nf_eq]
  refine hk _ (sf_upd hI ht1 b1 ⟨_, rfl, ?_⟩ (sf_R_m hI.2 hm (sf_r1 hr))) (sf_mt hs hm (sf_in1 hM)) hm trivial
  intro i hi9
  show lo' ≤ (va_cpy (sf_a w p) (sf_a w q) sp.toNatClampNeg dp.toNatClampNeg n.toNatClampNeg i).toInt ∧ _ ≤ hi'
  unfold va_cpy
  split
  · have h9 := a2 (sp.toNatClampNeg + (i - dp.toNatClampNeg)) (by omega)
    omega
  · exact b2 i hi9
theorem sf_R1p (hI : sf_I w) (h : 0 < (sf_f w 71 1).toInt) {i : Int32} (h1 : 0 ≤ i.toInt ∧ i.toInt < 24) : (sf_a w 72 i.toInt.toNat).toInt < i.toInt := by
  by_cases h0 : i.toInt.toNat = 0
  · have h2 := hI.2.1.2.1 h
    rw [h0]
    omega
  · have h2 := hI.2.1.1 i.toInt.toNat (by omega) h0
    omega
theorem sf_R1q (hI : sf_I w) {i : Int32} (h1 : 0 ≤ i.toInt ∧ i.toInt < 24) (h : (sf_a w 73 i.toInt.toNat).toInt < 0) : (sf_a w 72 i.toInt.toNat).toInt < i.toInt := by
  by_cases h0 : i.toInt.toNat = 0
  · have h2 := hI.2.1.2.2
    rw [h0] at h ⊢
    omega
  · have h2 := hI.2.1.1 i.toInt.toNat (by omega) h0
    omega
theorem sf_R3 (hI : sf_I w) {d : Int32} (h1 : 0 ≤ d.toInt ∧ d.toInt < 12) : (sf_a w 41 d.toInt.toNat).toInt + (sf_a w 38 d.toInt.toNat).toInt ≤ 40 ∧ ((sf_a w 40 d.toInt.toNat).toInt = 0 → (sf_a w 41 d.toInt.toNat).toInt = 0) := hI.2.2.1 d.toInt.toNat (by omega)
theorem sf_R4 (hI : sf_I w) {d k i : Int32} (h1 : 0 ≤ d.toInt ∧ d.toInt < 12) (h2 : 0 ≤ k.toInt ∧ k.toInt < (sf_a w 104 d.toInt.toNat).toInt) (h3 : i.toInt = 12 * d.toInt + 3 * k.toInt) : 1 ≤ (sf_a w 110 i.toInt.toNat).toInt := by
  have h4 := hI.2.2.2 d.toInt.toNat k.toInt.toNat (by omega) (by omega)
  have h5 : i.toInt.toNat = 12 * d.toInt.toNat + 3 * k.toInt.toNat := by omega
  rw [h5]
  exact h4
theorem sf_hd (hI : sf_I w) : 0 ≤ (sf_f w 71 1).toInt := by
  obtain ⟨vs, h1, h2, h3⟩ := sf_obj hI (p := 71) (ci := 9) (m := 0) (lo := 0) (hi := 0) rfl
  have hj : 1 < vs.length := by
    rw [h2]
    decide
  have h4 : vs[1]? = some vs[1] := List.getElem?_eq_getElem hj
  obtain ⟨x, h5, h6, h7⟩ := h3 1 (1, 0, 0, 24) _ rfl h4
  have h8 : sf_f w 71 1 = x := by
    unfold sf_f
    simp only [h1, h4, h5]
    rfl
  rw [h8]
  exact h6
end SF
