/-! Steps with bits and longs. -/
theorem sf_laddX {K : wq_T} {L : wq_L} {S : List wq_V} {w : wq_W} {a b : Nat} {x y : Int64} (h : -9223372036854775808 ≤ x.toInt + y.toInt ∧ x.toInt + y.toInt ≤ 9223372036854775807) (hk : ∀ z : Int64, z.toInt = x.toInt + y.toInt → K L (.inl (.long z) :: S) w a b) : wq_l2 (fun x y => x + y) K L (.inl (.long y) :: .inl (.long x) :: S) w a b :=
  hk _ (by rw [Int64.toInt_add]; exact sf_bml h)
theorem sf_lmulX {K : wq_T} {L : wq_L} {S : List wq_V} {w : wq_W} {a b : Nat} {x y : Int64} {a9 b9 : Int} (hab : a9 * b9 ≤ 9223372036854775807) (hx : 0 ≤ x.toInt ∧ x.toInt ≤ a9) (hy : 0 ≤ y.toInt ∧ y.toInt ≤ b9) (hk : ∀ z : Int64, (∀ q : Int, q = x.toInt → z.toInt = q * y.toInt) → K L (.inl (.long z) :: S) w a b) : wq_l2 (fun x y => x * y) K L (.inl (.long y) :: .inl (.long x) :: S) w a b :=
  hk _ (fun q hq => by
    subst hq
    have h1 : 0 ≤ x.toInt * y.toInt := Int.mul_nonneg hx.1 hy.1
    have h2 : x.toInt * y.toInt ≤ a9 * b9 := Int.mul_le_mul hx.2 hy.2 hy.1 (by omega)
    rw [Int64.toInt_mul]
    exact sf_bml ⟨by omega, by omega⟩)
theorem sb_16 {z : Int32} (h : z.toBitVec.toNat < 65536) : 0 ≤ z.toInt ∧ z.toInt ≤ 65535 := by
  have h1 : z.toInt = z.toBitVec.toInt := rfl
  rw [h1, BitVec.toInt_eq_toNat_cond, if_pos (by omega)]
  omega
theorem sf_iorE {K : wq_T} {L : wq_L} {S : List wq_V} {w : wq_W} {a b : Nat} {x y : Int32} (hx : 0 ≤ x.toInt ∧ x.toInt ≤ 65535) (hy : 0 ≤ y.toInt ∧ y.toInt ≤ 65535) (hk : ∀ z : Int32, 0 ≤ z.toInt → z.toInt ≤ 65535 → z = x ||| y → K L (.inl (.int z) :: S) w a b) : wq_i2 (fun x y => x ||| y) K L (.inl (.int y) :: .inl (.int x) :: S) w a b := by
  have h1 := sb_tn hx.1
  have h2 := sb_tn hy.1
  have h3 : (x ||| y).toBitVec.toNat < 65536 := by
    rw [Int32.toBitVec_or, BitVec.toNat_or]
    exact Nat.or_lt_two_pow (n := 16) (by omega) (by omega)
  have h4 := sb_16 h3
  exact hk _ h4.1 h4.2 rfl
theorem sb_s16 : ∀ k : Fin 16, 0 ≤ ((1 : Int32) <<< (Int32.ofNat k.val &&& 31)).toInt ∧ ((1 : Int32) <<< (Int32.ofNat k.val &&& 31)).toInt ≤ 65535 ∧ (Int32.ofNat k.val).toInt = (k.val : Int) := by decide +kernel
theorem sf_ishlE {K : wq_T} {L : wq_L} {S : List wq_V} {w : wq_W} {a b : Nat} {x y : Int32} (hx : x.toInt = 1) (hy : 0 ≤ y.toInt ∧ y.toInt ≤ 15) (hk : ∀ z : Int32, 0 ≤ z.toInt → z.toInt ≤ 65535 → z = x <<< (y &&& 31) → K L (.inl (.int z) :: S) w a b) : wq_i2 (fun x y => x <<< (y &&& 31)) K L (.inl (.int y) :: .inl (.int x) :: S) w a b := by
  obtain ⟨h1, h2, h3⟩ := sb_s16 ⟨y.toInt.toNat, by omega⟩
  have h4 : y = Int32.ofNat y.toInt.toNat := sb_eq (by
    have h5 : (Int32.ofNat y.toInt.toNat).toInt = ((y.toInt.toNat : Nat) : Int) := h3
    omega)
  have h6 : x = 1 := sb_1 hx
  have h7 : 0 ≤ (x <<< (y &&& 31)).toInt ∧ (x <<< (y &&& 31)).toInt ≤ 65535 := by
    rw [h6, h4]
    exact ⟨h1, h2⟩
  exact hk _ h7.1 h7.2 rfl
theorem sm_rgT {rk : Nat → Int32} {j : Nat} (h : (rk j).toInt = -1) : sm_rg rk j = -1 := if_pos h
theorem sm_rgF {rk : Nat → Int32} {j : Nat} (h : (rk j).toInt ≠ -1) : sm_rg rk j = (j : Int) := if_neg h
theorem sm_rjT {rk : Nat → Int32} {j : Nat} (h : (rk j).toInt < 0) : sm_rj rk j = -1 := if_pos h
theorem sm_rjF {rk : Nat → Int32} {j : Nat} (h : ¬ (rk j).toInt < 0) : sm_rj rk j = (j : Int) := if_neg h
def sm_as (a : Int32) (ins : Nat → Int32) (g : Nat) : Prop := ∀ x : Nat, x < 16 → sb_t a x = sm_ak ins g x
theorem sm_asm {a v s y g : Int32} {ins : Nat → Int32} (hv : v.toInt = (ins g.toInt.toNat).toInt) (ey : y.toInt = 1) (es : s = y <<< (g &&& 31)) (em : a = v ||| s) (h0 : 0 ≤ g.toInt) (h1 : g.toInt ≤ 15) : sm_as a ins g.toInt.toNat := by
  intro x hx
  rw [sb_or em, sb_eq hv, sb_sh ey es h0 (by omega) (by omega)]
  unfold sm_ak
  congr 1
  by_cases h : x = g.toInt.toNat
  · rw [decide_eq_true h, decide_eq_true (by omega)]
  · rw [decide_eq_false h, decide_eq_false (by omega)]
theorem sm_mad {m m' s y e : Int32} (ey : y.toInt = 1) (es : s = y <<< (e &&& 31)) (em : m' = m ||| s) (h0 : 0 ≤ e.toInt) (h1 : e.toInt ≤ 15) : ∀ x : Nat, x < 16 → sb_t m' x = (sb_t m x || decide (x = e.toInt.toNat)) := by
  intro x hx
  rw [sb_or em, sb_sh ey es h0 (by omega) (by omega)]
  congr 1
  by_cases h : x = e.toInt.toNat
  · rw [decide_eq_true h, decide_eq_true (by omega)]
  · rw [decide_eq_false h, decide_eq_false (by omega)]
theorem sm_z0 {z : Int32} (h : z.toInt = 0) (x : Nat) : sb_t z x = false := by
  have h1 : z = 0 := sb_eq (by rw [h]; decide)
  rw [h1]
  simp [sb_t]
theorem sm_akg {ins : Nat → Int32} {g : Nat} : sm_ak ins g g = true := by
  unfold sm_ak
  simp
theorem sm_mbi {f : Nat → Int32} {p : Nat} {v : Int} (h : v = (f p).toInt) (h0 : 0 ≤ v) (h1 : v ≤ 1) : sp_i (sm_mb f p) = v := by
  unfold sm_mb
  by_cases e : (f p).toInt = 1
  · rw [decide_eq_true e, h, e]; rfl
  · rw [decide_eq_false e]
    show (0 : Int) = v
    omega
theorem sm_cS {fo : Nat → Bool} {pg : Nat → Nat → Nat} {cls : Nat → Int} {g n k : Nat} {al al' : Int} (hk : k = n + 1) (h0 : al = sp_i (sm_C fo pg cls g n)) (hh : (al ≠ 1 ∧ al' = 0) ∨ (al' = al ∧ (fo n = false ∨ cls (pg g n) ≠ cls g)) ∨ (al' = 0 ∧ fo n = true ∧ cls (pg g n) = cls g)) : al' = sp_i (sm_C fo pg cls g k) := by
  rcases hh with ⟨h1, h2⟩ | ⟨h1, h2⟩ | ⟨h1, h2, h3⟩
  · subst hk
    show al' = sp_i (sm_C fo pg cls g n && _)
    rw [sp_iF (fun e => h1 (h0.trans e)), h2]; rfl
  · rw [sm_CT hk h2, h1, h0]
  · rw [sm_CF hk ⟨h2, h3⟩, h1]; rfl
def sm_i0 (kn cl : Nat → Int32) (B : Int → Int) (c : Int) : Prop := ∀ x : Nat, (x : Int) < c → (kn x).toInt = 0 ∧ (cl x).toInt = sm_cl B x
theorem sm_i0s {kn cl kn' cl' : Nat → Int32} {B : Int → Int} {c c' : Int} {i j y v : Int32} (h : sm_i0 kn cl B c) (h0 : 0 ≤ c) (hc : c' = c + 1) (hi : i.toInt = c) (hj : j.toInt = c) (hk : kn' = upd kn i.toInt.toNat y) (hy : y.toInt = 0) (hl : cl' = upd cl j.toInt.toNat v) (hv : v.toInt = B c) : sm_i0 kn' cl' B c' := by
  intro x hx
  rw [hk, hl, sf_uu, sf_uu]
  by_cases e : x = c.toNat
  · rw [if_pos (by omega), if_pos (by omega)]
    refine ⟨hy, ?_⟩
    unfold sm_cl
    rw [hv, show (x : Int) = c by omega]
  · rw [if_neg (by omega), if_neg (by omega)]
    exact h x (by omega)
def sm_ic (cl : Nat → Int32) (B : Int → Int) : Prop := ∀ x : Nat, x < 16 → (cl x).toInt = sm_cl B x
def sm_rd (kn : Nat → Int32) (pg : Nat → Nat → Nat) (g n : Nat) (rd : Int) : Prop := rd = 1 ↔ ((kn g).toInt ≠ 1 ∧ ∀ j : Nat, j < n → (kn (pg g j)).toInt = 1)
theorem sm_rdS {kn : Nat → Int32} {pg : Nat → Nat → Nat} {g n n' : Nat} {rd rd' : Int} (h : sm_rd kn pg g n rd) (hn : n' = n + 1) (hh : (rd ≠ 1 ∧ rd' = 0) ∨ (rd = 1 ∧ rd' = 1 ∧ (kn (pg g n)).toInt = 1) ∨ (rd' = 0 ∧ (kn (pg g n)).toInt ≠ 1)) : sm_rd kn pg g n' rd' := by
  subst hn
  unfold sm_rd at h ⊢
  rcases hh with ⟨h1, h2⟩ | ⟨h1, h2, h3⟩ | ⟨h1, h2⟩
  · constructor
    · intro h9; omega
    · rintro ⟨p1, p2⟩
      exact absurd (h.mpr ⟨p1, fun j hj => p2 j (by omega)⟩) h1
  · obtain ⟨p1, p2⟩ := h.mp h1
    refine ⟨fun _ => ⟨p1, fun j hj => ?_⟩, fun _ => h2⟩
    by_cases e : j = n
    · subst e; exact h3
    · exact p2 j (by omega)
  · constructor
    · intro h9; omega
    · rintro ⟨_, p2⟩
      exact absurd (p2 n (by omega)) h2
theorem sm_rdN {kn : Nat → Int32} {pg : Nat → Nat → Nat} {g n : Nat} {rd : Int} {pc : Nat → Int} (h : sm_rd kn pg g n rd) (hn : (n : Int) = pc g) (h1 : rd ≠ 1) : (kn g).toInt = 1 ∨ ∃ k : Nat, (k : Int) < pc g ∧ (kn (pg g k)).toInt ≠ 1 := by
  apply Classical.byContradiction
  intro hc
  refine h1 (h.mpr ⟨fun e => hc (Or.inl e), fun j hj => ?_⟩)
  apply Classical.byContradiction
  intro hj2
  exact hc (Or.inr ⟨j, by omega, hj2⟩)
/-- with the classes read from the row -/
theorem sm_Vic {pc : Nat → Int} {pg : Nat → Nat → Nat} {pv : Nat → Nat → Int} {ln : Nat → Nat → Bool} {cl : Nat → Int32} {B : Int → Int} {rh rk rl : Int → Int} {m : Nat → Bool} {g : Nat} (h : sm_ic cl B) (hg : g < 16) (hb : ∀ k : Nat, (k : Int) < pc g → pg g k < 16) : sm_V pc pg pv ln (sm_pc cl) rh rk rl m g = sm_V pc pg pv ln (sm_cl B) rh rk rl m g :=
  sm_VE rfl (h g hg) rfl (fun _ => ⟨rfl, rfl⟩) (fun k hk => ⟨rfl, rfl, rfl, rfl, h _ (hb k hk), rfl⟩)
