/-! Integer.bitCount for what is inside. -/
def sb_N (n : Nat) : Nat :=
  let a := n - Nat.land (Nat.shiftRight n 1) 1431655765
  let b := Nat.land a 858993459 + Nat.land (Nat.shiftRight a 2) 858993459
  let c := Nat.land (b + Nat.shiftRight b 4) 252645135
  let d := c + Nat.shiftRight c 8
  let e := d + Nat.shiftRight d 16
  Nat.land e 63
def sb_P (n : Nat) : Nat → Nat
  | 0 => 0
  | k + 1 => sb_P n k + Nat.mod (Nat.shiftRight n k) 2
def sb_kk (n : Nat) : Bool := Nat.beq (sb_N n) (sb_P n 16)
def sb_al (b : Nat) : Nat → Bool
  | 0 => true
  | n + 1 => cond (sb_kk (b + n)) (sb_al b n) false
theorem sb_alt {b : Nat} : ∀ {n : Nat}, sb_al b n = true → ∀ i, i < n → sb_kk (b + i) = true
  | 0, _, _, hi => absurd hi (by omega)
  | n + 1, h, i, hi => by
    have h' : cond (sb_kk (b + n)) (sb_al b n) false = true := h
    cases hk : sb_kk (b + n) with
    | false => rw [hk] at h'; exact absurd (show false = true from h') (by decide)
    | true =>
      rw [hk] at h'
      by_cases e : i = n
      · rw [e]; exact hk
      · exact sb_alt (n := n) h' i (by omega)
def sb_ao (m : Nat) : Nat → Bool
  | 0 => true
  | n + 1 => cond (sb_al (256 * (m + n)) 256) (sb_ao m n) false
theorem sb_aot {m : Nat} : ∀ {n : Nat}, sb_ao m n = true → ∀ i, i < n → sb_al (256 * (m + i)) 256 = true
  | 0, _, _, hi => absurd hi (by omega)
  | n + 1, h, i, hi => by
    have h' : cond (sb_al (256 * (m + n)) 256) (sb_ao m n) false = true := h
    cases hk : sb_al (256 * (m + n)) 256 with
    | false => rw [hk] at h'; exact absurd (show false = true from h') (by decide)
    | true =>
      rw [hk] at h'
      by_cases e : i = n
      · rw [e]; exact hk
      · exact sb_aot (n := n) h' i (by omega)
set_option maxRecDepth 100000 in
theorem sb_w0 : sb_ao 0 16 = true := by decide +kernel
set_option maxRecDepth 100000 in
theorem sb_w1 : sb_ao 16 16 = true := by decide +kernel
set_option maxRecDepth 100000 in
theorem sb_w2 : sb_ao 32 16 = true := by decide +kernel
set_option maxRecDepth 100000 in
theorem sb_w3 : sb_ao 48 16 = true := by decide +kernel
set_option maxRecDepth 100000 in
theorem sb_w4 : sb_ao 64 16 = true := by decide +kernel
set_option maxRecDepth 100000 in
theorem sb_w5 : sb_ao 80 16 = true := by decide +kernel
set_option maxRecDepth 100000 in
theorem sb_w6 : sb_ao 96 16 = true := by decide +kernel
set_option maxRecDepth 100000 in
theorem sb_w7 : sb_ao 112 16 = true := by decide +kernel
set_option maxRecDepth 100000 in
theorem sb_w8 : sb_ao 128 16 = true := by decide +kernel
set_option maxRecDepth 100000 in
theorem sb_w9 : sb_ao 144 16 = true := by decide +kernel
set_option maxRecDepth 100000 in
theorem sb_w10 : sb_ao 160 16 = true := by decide +kernel
set_option maxRecDepth 100000 in
theorem sb_w11 : sb_ao 176 16 = true := by decide +kernel
set_option maxRecDepth 100000 in
theorem sb_w12 : sb_ao 192 16 = true := by decide +kernel
set_option maxRecDepth 100000 in
theorem sb_w13 : sb_ao 208 16 = true := by decide +kernel
set_option maxRecDepth 100000 in
theorem sb_w14 : sb_ao 224 16 = true := by decide +kernel
set_option maxRecDepth 100000 in
theorem sb_w15 : sb_ao 240 16 = true := by decide +kernel
theorem sb_pk {n : Nat} (h : n < 65536) : sb_N n = sb_P n 16 := by
  have h1 : ∀ j, j < 16 → sb_ao (16 * j) 16 = true := by
    intro j hj
    match j, hj with
    | 0, _ => exact sb_w0
    | 1, _ => exact sb_w1
    | 2, _ => exact sb_w2
    | 3, _ => exact sb_w3
    | 4, _ => exact sb_w4
    | 5, _ => exact sb_w5
    | 6, _ => exact sb_w6
    | 7, _ => exact sb_w7
    | 8, _ => exact sb_w8
    | 9, _ => exact sb_w9
    | 10, _ => exact sb_w10
    | 11, _ => exact sb_w11
    | 12, _ => exact sb_w12
    | 13, _ => exact sb_w13
    | 14, _ => exact sb_w14
    | 15, _ => exact sb_w15
    | j + 16, hj => exact absurd hj (by omega)
  have h2 := sb_aot (h1 (n / 4096) (by omega)) (n / 256 % 16) (by omega)
  have h3 := sb_alt h2 (n % 256) (by omega)
  rw [show 256 * (16 * (n / 4096) + n / 256 % 16) + n % 256 = n by omega] at h3
  exact Nat.eq_of_beq_eq_true h3
theorem sb_u {x : Int32} {k : UInt32} {j : Nat} (hk : k.toNat % 32 = j) : ((x.toUInt32 >>> k).toInt32).toBitVec.toNat = Nat.shiftRight x.toBitVec.toNat j := by
  show (x.toUInt32 >>> k).toNat = _
  rw [UInt32.toNat_shiftRight, hk]
  rfl
theorem sb_an (x y : Int32) : (x &&& y).toBitVec.toNat = Nat.land x.toBitVec.toNat y.toBitVec.toNat := by
  rw [Int32.toBitVec_and, BitVec.toNat_and]
  rfl
theorem sb_ad {x y : Int32} (h : x.toBitVec.toNat + y.toBitVec.toNat < 4294967296) : (x + y).toBitVec.toNat = x.toBitVec.toNat + y.toBitVec.toNat := by
  rw [Int32.toBitVec_add, BitVec.toNat_add]
  exact Nat.mod_eq_of_lt h
theorem sb_su {x y : Int32} (h : y.toBitVec.toNat ≤ x.toBitVec.toNat) : (x - y).toBitVec.toNat = x.toBitVec.toNat - y.toBitVec.toNat := by
  rw [Int32.toBitVec_sub]
  exact BitVec.toNat_sub_of_le h
def sb_B (x : Int32) : Int32 :=
  let a := x - ((x.toUInt32 >>> (((1 : Int32)).toUInt32 &&& Int32.toUInt32 31)).toInt32 &&& 1431655765)
  let b := (a &&& 858993459) + ((a.toUInt32 >>> (((2 : Int32)).toUInt32 &&& Int32.toUInt32 31)).toInt32 &&& 858993459)
  let c := (b + (b.toUInt32 >>> (((4 : Int32)).toUInt32 &&& Int32.toUInt32 31)).toInt32) &&& 252645135
  let d := c + (c.toUInt32 >>> (((8 : Int32)).toUInt32 &&& Int32.toUInt32 31)).toInt32
  let e := d + (d.toUInt32 >>> (((16 : Int32)).toUInt32 &&& Int32.toUInt32 31)).toInt32
  e &&& 63
theorem sb_lr (n k : Nat) : Nat.shiftRight n k ≤ n := by
  show n >>> k ≤ n
  rw [Nat.shiftRight_eq_div_pow]
  exact Nat.div_le_self _ _
theorem sb_ll (n k : Nat) : Nat.land n k ≤ n := Nat.and_le_left
theorem sb_BN {x : Int32} (h : x.toBitVec.toNat < 65536) : (sb_B x).toBitVec.toNat = sb_N x.toBitVec.toNat := by
  have u1 := sb_u (x := x) (k := ((1 : Int32)).toUInt32 &&& Int32.toUInt32 31) (j := 1) (by decide)
  have a1 := sb_an (x.toUInt32 >>> (((1 : Int32)).toUInt32 &&& Int32.toUInt32 31)).toInt32 1431655765
  rw [u1] at a1
  have l1 := sb_ll (Nat.shiftRight x.toBitVec.toNat 1) (1431655765 : Int32).toBitVec.toNat
  have r1 := sb_lr x.toBitVec.toNat 1
  have s1 := sb_su (x := x) (y := (x.toUInt32 >>> (((1 : Int32)).toUInt32 &&& Int32.toUInt32 31)).toInt32 &&& 1431655765) (by omega)
  rw [a1] at s1
  unfold sb_B sb_N
  generalize x - ((x.toUInt32 >>> (((1 : Int32)).toUInt32 &&& Int32.toUInt32 31)).toInt32 &&& 1431655765) = a at s1 ⊢
  have s1' : a.toBitVec.toNat = x.toBitVec.toNat - Nat.land (Nat.shiftRight x.toBitVec.toNat 1) 1431655765 := s1
  dsimp only
  rw [← s1']
  have ha : a.toBitVec.toNat < 65536 := by omega
  clear s1 s1' a1 u1 l1 r1 h
  have u2 := sb_u (x := a) (k := ((2 : Int32)).toUInt32 &&& Int32.toUInt32 31) (j := 2) (by decide)
  have a2 := sb_an (a.toUInt32 >>> (((2 : Int32)).toUInt32 &&& Int32.toUInt32 31)).toInt32 858993459
  rw [u2] at a2
  have a3 := sb_an a 858993459
  have l2 := sb_ll (Nat.shiftRight a.toBitVec.toNat 2) (858993459 : Int32).toBitVec.toNat
  have l3 := sb_ll a.toBitVec.toNat (858993459 : Int32).toBitVec.toNat
  have r2 := sb_lr a.toBitVec.toNat 2
  have s2 := sb_ad (x := a &&& 858993459) (y := (a.toUInt32 >>> (((2 : Int32)).toUInt32 &&& Int32.toUInt32 31)).toInt32 &&& 858993459) (by omega)
  rw [a2, a3] at s2
  generalize (a &&& 858993459) + ((a.toUInt32 >>> (((2 : Int32)).toUInt32 &&& Int32.toUInt32 31)).toInt32 &&& 858993459) = b at s2 ⊢
  have s2' : b.toBitVec.toNat = Nat.land a.toBitVec.toNat 858993459 + Nat.land (Nat.shiftRight a.toBitVec.toNat 2) 858993459 := s2
  rw [← s2']
  have hb : b.toBitVec.toNat < 131072 := by omega
  clear s2 s2' a2 a3 u2 l2 l3 r2 ha
  have u3 := sb_u (x := b) (k := ((4 : Int32)).toUInt32 &&& Int32.toUInt32 31) (j := 4) (by decide)
  have r3 := sb_lr b.toBitVec.toNat 4
  have s3 := sb_ad (x := b) (y := (b.toUInt32 >>> (((4 : Int32)).toUInt32 &&& Int32.toUInt32 31)).toInt32) (by omega)
  rw [u3] at s3
  have a4 := sb_an (b + (b.toUInt32 >>> (((4 : Int32)).toUInt32 &&& Int32.toUInt32 31)).toInt32) 252645135
  rw [s3] at a4
  have l4 := sb_ll (b.toBitVec.toNat + Nat.shiftRight b.toBitVec.toNat 4) (252645135 : Int32).toBitVec.toNat
  generalize (b + (b.toUInt32 >>> (((4 : Int32)).toUInt32 &&& Int32.toUInt32 31)).toInt32) &&& 252645135 = c at a4 ⊢
  have a4' : c.toBitVec.toNat = Nat.land (b.toBitVec.toNat + Nat.shiftRight b.toBitVec.toNat 4) 252645135 := a4
  rw [← a4']
  have hc : c.toBitVec.toNat < 262144 := by omega
  clear s3 a4 a4' u3 r3 l4 hb
  have u4 := sb_u (x := c) (k := ((8 : Int32)).toUInt32 &&& Int32.toUInt32 31) (j := 8) (by decide)
  have r4 := sb_lr c.toBitVec.toNat 8
  have s4 := sb_ad (x := c) (y := (c.toUInt32 >>> (((8 : Int32)).toUInt32 &&& Int32.toUInt32 31)).toInt32) (by omega)
  rw [u4] at s4
  generalize c + (c.toUInt32 >>> (((8 : Int32)).toUInt32 &&& Int32.toUInt32 31)).toInt32 = d at s4 ⊢
  rw [← s4]
  have hd : d.toBitVec.toNat < 524288 := by omega
  clear s4 u4 r4 hc
  have u5 := sb_u (x := d) (k := ((16 : Int32)).toUInt32 &&& Int32.toUInt32 31) (j := 16) (by decide)
  have r5 := sb_lr d.toBitVec.toNat 16
  have s5 := sb_ad (x := d) (y := (d.toUInt32 >>> (((16 : Int32)).toUInt32 &&& Int32.toUInt32 31)).toInt32) (by omega)
  rw [u5] at s5
  rw [← s5]
  exact sb_an _ 63
theorem sb_Pq {x : Int32} : ∀ n : Nat, sb_P x.toBitVec.toNat n = sb_q (sb_t x) n
  | 0 => rfl
  | n + 1 => by
    show sb_P x.toBitVec.toNat n + (x.toBitVec.toNat >>> n) % 2 = sb_q (sb_t x) n + cond (sb_t x n) 1 0
    rw [sb_Pq n]
    have e : sb_t x n = decide (x.toBitVec.toNat / 2 ^ n % 2 = 1) := by
      unfold sb_t
      rw [BitVec.getLsbD, Nat.testBit_eq_decide_div_mod_eq]
    rw [e, Nat.shiftRight_eq_div_pow]
    by_cases h : x.toBitVec.toNat / 2 ^ n % 2 = 1
    · rw [decide_eq_true h, h]; rfl
    · rw [decide_eq_false h]
      have h2 : x.toBitVec.toNat / 2 ^ n % 2 = 0 := by omega
      rw [h2]; rfl
theorem sb_tn {x : Int32} (h : 0 ≤ x.toInt) : (x.toBitVec.toNat : Int) = x.toInt := by
  have h1 : x.toInt = x.toBitVec.toInt := rfl
  rw [h1] at h ⊢
  rw [BitVec.toInt_eq_toNat_cond] at h ⊢
  split at h
  · rename_i hc; rw [if_pos hc]
  · have := x.toBitVec.isLt
    omega
theorem sb_bc {x : Int32} (h0 : 0 ≤ x.toInt) (h1 : x.toInt ≤ 65535) : (sb_B x).toInt = (sb_c x : Int) := by
  have h2 := sb_tn h0
  have h3 : x.toBitVec.toNat < 65536 := by omega
  have h4 := sb_BN h3
  rw [sb_pk h3, sb_Pq] at h4
  have h5 := sb_ql (p := sb_t x) 16
  show (sb_B x).toBitVec.toInt = _
  rw [BitVec.toInt_eq_toNat_cond, h4, if_pos (by omega)]
  rfl
