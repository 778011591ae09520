/-! Safety: the invariant of the world, steps that keep it. Written by program. -/
def sf_t : List (Nat × Nat × Nat × Int × Int) := [(4, 0, 0, 0, 0), (4, 1, 0, 0, 0), (0, 24, 0, (-1), 23), (0, 24, 0, 0, 5), (0, 24, 0, (-2147483648), 2147483647), (0, 24, 0, (-2147483648), 2147483647), (0, 40, 0, 0, 23), (0, 40, 0, (-2147483648), 2147483647), (0, 40, 0, 0, 7), (0, 40, 0, (-2147483648), 2147483647), (3, 16, 8, (-2147483648), 2147483647), (2, 24, 0, 0, 1), (0, 24, 0, (-2147483648), 2147483647), (4, 2, 0, 0, 0), (0, 40, 0, (-2147483648), 2147483647), (0, 40, 0, (-2147483648), 2147483647), (0, 40, 0, (-2147483648), 2147483647), (0, 40, 0, (-2147483648), 2147483647), (0, 40, 0, (-2147483648), 2147483647), (0, 40, 0, (-2147483648), 2147483647), (0, 40, 0, (-2147483648), 2147483647), (4, 3, 0, 0, 0), (0, 8, 0, (-2147483648), 2147483647), (0, 8, 0, (-2147483648), 2147483647), (0, 8, 0, (-2147483648), 2147483647), (0, 8, 0, (-2147483648), 2147483647), (0, 8, 0, (-2147483648), 2147483647), (0, 8, 0, (-2147483648), 2147483647), (4, 4, 0, 0, 0), (0, 4, 0, (-2147483648), 2147483647), (0, 16, 0, 0, 5), (3, 16, 5, 0, 15), (3, 16, 5, (-2147483648), 2147483647), (3, 16, 5, (-2147483648), 2147483647), (0, 16, 0, (-2147483648), 2147483647), (4, 5, 0, 0, 0), (0, 12, 0, (-2147483648), 2147483647), (0, 12, 0, (-2147483648), 2147483647), (0, 12, 0, 0, 4), (3, 12, 2, (-2147483648), 2147483647), (2, 12, 0, 0, 1), (0, 12, 0, 0, 40), (0, 48, 0, 0, 15), (0, 48, 0, (-2147483648), 2147483647), (0, 48, 0, (-2147483648), 2147483647), (0, 48, 0, (-2147483648), 2147483647), (0, 48, 0, (-2147483648), 2147483647), (2, 48, 0, 0, 1), (0, 48, 0, (-1), 7), (0, 48, 0, (-2147483648), 2147483647), (1, 48, 0, 0, 0), (4, 6, 0, 0, 0), (0, 4, 0, (-2147483648), 2147483647), (1, 4, 0, 0, 0), (1, 4, 0, 0, 0), (0, 4, 0, (-1), 39), (0, 4, 0, (-1), 7), (0, 8, 0, (-2147483648), 2147483647), (1, 4, 0, 0, 0), (1, 4, 0, 0, 0), (4, 7, 0, 0, 0), (0, 40, 0, (-2147483648), 2147483647), (0, 40, 0, (-2147483648), 2147483647), (0, 40, 0, (-2147483648), 2147483647), (1, 40, 0, 0, 0), (2, 40, 0, 0, 1), (2, 40, 0, 0, 1), (4, 8, 0, 0, 0), (0, 16, 0, (-2147483648), 2147483647), (0, 16, 0, (-2147483648), 2147483647), (0, 16, 0, (-2147483648), 2147483647), (4, 9, 0, 0, 0), (0, 24, 0, (-1), 23), (0, 24, 0, (-2147483648), 2147483647), (0, 24, 0, (-2147483648), 2147483647), (0, 40, 0, (-2147483648), 2147483647), (0, 40, 0, (-2147483648), 2147483647), (0, 40, 0, 0, 7), (0, 40, 0, (-2147483648), 2147483647), (0, 40, 0, (-2147483648), 2147483647), (0, 40, 0, (-2147483648), 2147483647), (0, 40, 0, (-2147483648), 2147483647), (0, 40, 0, (-2147483648), 2147483647), (0, 40, 0, (-2147483648), 2147483647), (0, 40, 0, (-2147483648), 2147483647), (0, 40, 0, (-2147483648), 2147483647), (0, 8, 0, (-2147483648), 2147483647), (0, 8, 0, (-2147483648), 2147483647), (0, 8, 0, (-2147483648), 2147483647), (0, 8, 0, (-2147483648), 2147483647), (0, 8, 0, (-2147483648), 2147483647), (0, 8, 0, (-2147483648), 2147483647), (0, 8, 0, (-2147483648), 2147483647), (0, 128, 0, (-2147483648), 2147483647), (0, 16, 0, 0, 5), (0, 80, 0, 0, 15), (0, 80, 0, (-2147483648), 2147483647), (0, 80, 0, (-2147483648), 2147483647), (0, 4, 0, (-2147483648), 2147483647), (0, 16, 0, (-1), 23), (2, 16, 0, 0, 1), (2, 16, 0, 0, 1), (0, 12, 0, (-2147483648), 2147483647), (0, 12, 0, (-2147483648), 2147483647), (0, 12, 0, 0, 4), (0, 24, 0, (-2147483648), 2147483647), (2, 12, 0, 0, 1), (0, 48, 0, 0, 15), (0, 48, 0, (-2147483648), 2147483647), (2, 48, 0, 0, 1), (0, 144, 0, (-2147483648), 2147483647), (1, 48, 0, 0, 0), (1, 4, 0, 0, 0), (0, 48, 0, 0, 39), (0, 48, 0, (-1), 7), (0, 48, 0, (-2147483648), 2147483647), (1, 48, 0, 0, 0), (0, 4, 0, (-1), 39), (0, 4, 0, (-1), 7), (0, 4, 0, (-2147483648), 2147483647), (1, 4, 0, 0, 0), (0, 40, 0, (-2147483648), 2147483647), (0, 40, 0, (-2147483648), 2147483647), (0, 40, 0, 0, 2147483647), (1, 40, 0, 0, 0), (2, 40, 0, 0, 1), (2, 40, 0, 0, 1), (0, 16, 0, (-2147483648), 2147483647), (0, 16, 0, (-2147483648), 2147483647), (0, 16, 0, (-2147483648), 2147483647), (1, 1, 0, 0, 0)]
def sf_o (c : Nat) : List (Nat × Nat × Int × Int) := match c with
  | 0 => [(0, 1, 0, 0), (0, 13, 0, 0), (0, 21, 0, 0), (0, 28, 0, 0), (0, 35, 0, 0), (0, 51, 0, 0), (0, 60, 0, 0), (0, 67, 0, 0)]
  | 1 => [(1, 0, 0, 24), (0, 2, 0, 0), (0, 3, 0, 0), (0, 4, 0, 0), (0, 5, 0, 0), (1, 0, 0, 40), (0, 6, 0, 0), (0, 7, 0, 0), (0, 8, 0, 0), (0, 9, 0, 0), (0, 10, 0, 0), (0, 11, 0, 0), (0, 12, 0, 0)]
  | 2 => [(0, 1, 0, 0), (1, 0, 0, 40), (0, 14, 0, 0), (0, 15, 0, 0), (0, 16, 0, 0), (0, 17, 0, 0), (0, 18, 0, 0), (0, 19, 0, 0), (0, 20, 0, 0)]
  | 3 => [(0, 1, 0, 0), (1, 0, 0, 8), (0, 22, 0, 0), (0, 23, 0, 0), (0, 24, 0, 0), (0, 25, 0, 0), (0, 26, 0, 0), (0, 27, 0, 0)]
  | 4 => [(0, 1, 0, 0), (0, 29, 0, 0), (0, 30, 0, 0), (0, 31, 0, 0), (0, 32, 0, 0), (0, 33, 0, 0), (0, 34, 0, 0)]
  | 5 => [(1, 0, 0, 12), (0, 36, 0, 0), (0, 37, 0, 0), (0, 38, 0, 0), (0, 39, 0, 0), (0, 40, 0, 0), (0, 41, 0, 0), (0, 42, 0, 0), (0, 43, 0, 0), (0, 44, 0, 0), (0, 45, 0, 0), (0, 46, 0, 0), (0, 47, 0, 0), (0, 48, 0, 0), (0, 49, 0, 0), (0, 50, 0, 0)]
  | 6 => [(0, 1, 0, 0), (0, 13, 0, 0), (0, 21, 0, 0), (0, 35, 0, 0), (0, 52, 0, 0), (0, 53, 0, 0), (0, 54, 0, 0), (0, 55, 0, 0), (0, 56, 0, 0), (0, 57, 0, 0), (0, 58, 0, 0), (0, 59, 0, 0)]
  | 7 => [(1, 0, 0, 40), (0, 61, 0, 0), (0, 62, 0, 0), (0, 63, 0, 0), (0, 64, 0, 0), (0, 65, 0, 0), (0, 66, 0, 0)]
  | 8 => [(2, 0, 0, 0), (2, 0, 0, 0), (0, 68, 0, 0), (0, 69, 0, 0), (0, 70, 0, 0)]
  | _ => [(1, 0, (-2147483648), 2147483647), (1, 0, 0, 24), (0, 72, 0, 0), (0, 73, 0, 0), (0, 74, 0, 0), (1, 0, 0, 40), (0, 75, 0, 0), (0, 76, 0, 0), (0, 77, 0, 0), (0, 78, 0, 0), (1, 0, 0, 40), (0, 79, 0, 0), (0, 80, 0, 0), (0, 81, 0, 0), (0, 82, 0, 0), (0, 83, 0, 0), (0, 84, 0, 0), (0, 85, 0, 0), (1, 0, 0, 8), (0, 86, 0, 0), (0, 87, 0, 0), (0, 88, 0, 0), (0, 89, 0, 0), (0, 90, 0, 0), (0, 91, 0, 0), (0, 92, 0, 0), (0, 93, 0, 0), (0, 94, 0, 0), (0, 95, 0, 0), (0, 96, 0, 0), (0, 97, 0, 0), (0, 98, 0, 0), (0, 99, 0, 0), (0, 100, 0, 0), (0, 101, 0, 0), (1, 0, 0, 12), (0, 102, 0, 0), (0, 103, 0, 0), (0, 104, 0, 0), (0, 105, 0, 0), (0, 106, 0, 0), (1, 0, (-1), 11), (0, 107, 0, 0), (0, 108, 0, 0), (0, 109, 0, 0), (0, 110, 0, 0), (0, 111, 0, 0), (0, 112, 0, 0), (0, 113, 0, 0), (0, 114, 0, 0), (0, 115, 0, 0), (0, 116, 0, 0), (0, 117, 0, 0), (0, 118, 0, 0), (0, 119, 0, 0), (0, 120, 0, 0), (1, 0, 0, 40), (0, 121, 0, 0), (0, 122, 0, 0), (0, 123, 0, 0), (0, 124, 0, 0), (0, 125, 0, 0), (0, 126, 0, 0), (0, 127, 0, 0), (0, 128, 0, 0), (0, 129, 0, 0), (2, 0, 0, 0), (2, 0, 0, 0)]
def sf_rel : List Nat := [38, 41, 40, 72, 73, 110, 104, 8101]
def sf_fv (t : Nat × Nat × Int × Int) (v : wq_V) : Prop := match t.1 with
  | 0 => v = .inl (.ref t.2.1)
  | 1 => ∃ x : Int32, v = .inl (.int x) ∧ t.2.2.1 ≤ x.toInt ∧ x.toInt ≤ t.2.2.2
  | _ => ∃ x : Int64, v = .inl (.long x)
def sf_E (t : Nat × Nat × Nat × Int × Int) (e : wq_E) : Prop := match t.1 with
  | 0 => ∃ f : Nat → Int32, e = .inl (0, (t.2.1, .inl f)) ∧ ∀ i, i < t.2.1 → t.2.2.2.1 ≤ (f i).toInt ∧ (f i).toInt ≤ t.2.2.2.2
  | 1 => ∃ f : Nat → Int64, e = .inl (1, (t.2.1, .inr (.inl f)))
  | 2 => ∃ f : Nat → Int32, e = .inl (2, (t.2.1, .inl f)) ∧ ∀ i, i < t.2.1 → t.2.2.2.1 ≤ (f i).toInt ∧ (f i).toInt ≤ t.2.2.2.2
  | 3 => ∃ f : Nat → Nat → Int32, e = .inr (.inr (t.2.1, t.2.2.1, f)) ∧ ∀ i j, i < t.2.1 → j < t.2.2.1 → t.2.2.2.1 ≤ (f i j).toInt ∧ (f i j).toInt ≤ t.2.2.2.2
  | _ => ∃ vs : List wq_V, e = .inr (.inl (t.2.1, vs)) ∧ vs.length = (sf_o t.2.1).length ∧ ∀ (j : Nat) (z : Nat × Nat × Int × Int) (v : wq_V), (sf_o t.2.1)[j]? = some z → vs[j]? = some v → sf_fv z v
def sf_S (w : wq_W) : Prop := ∀ (p : Nat) (t : Nat × Nat × Nat × Int × Int), sf_t[p]? = some t → ∃ e, wq_n w p = some e ∧ sf_E t e
def sf_a (w : wq_W) (p i : Nat) : Int32 := match wq_n w p with
  | some (.inl (_, (_, .inl f))) => f i
  | _ => 0
def sf_g (w : wq_W) (p i j : Nat) : Int32 := match wq_n w p with
  | some (.inr (.inr (_, _, f))) => f i j
  | _ => 0
def sf_l (w : wq_W) (p i : Nat) : Int64 := match wq_n w p with
  | some (.inl (_, (_, .inr (.inl f)))) => f i
  | _ => 0
def sf_fo (o : Option wq_V) : Int32 := match o with
  | some (.inl (.int x)) => x
  | _ => 0
def sf_f (w : wq_W) (p j : Nat) : Int32 := match wq_n w p with
  | some (.inr (.inl o)) => sf_fo o.2[j]?
  | _ => 0
def sf_R (w : wq_W) : Prop :=
  ((∀ h : Nat, h < 24 → h ≠ 0 → (sf_a w 72 h).toInt < h) ∧ (0 < (sf_f w 71 1).toInt → (sf_a w 72 0).toInt < 0) ∧ (0 ≤ (sf_a w 73 0).toInt ∨ (sf_a w 72 0).toInt < 0)) ∧
  (∀ d : Nat, d < 12 → (sf_a w 41 d).toInt + (sf_a w 38 d).toInt ≤ 40 ∧ ((sf_a w 40 d).toInt = 0 → (sf_a w 41 d).toInt = 0)) ∧
  (∀ d k : Nat, d < 12 → (k : Int) < (sf_a w 104 d).toInt → 1 ≤ (sf_a w 110 (12 * d + 3 * k)).toInt)
def sf_I (w : wq_W) : Prop := sf_S w ∧ sf_R w
def sf_m (M : List Nat) (w w' : wq_W) : Prop := (∀ p, M.contains p = false → wq_n w' p = wq_n w p) ∧ ∀ p j, M.contains (1000 + 100 * p + j) = false → sf_f w' p j = sf_f w p j
theorem sf_m0 {M : List Nat} {w : wq_W} : sf_m M w w := ⟨fun _ _ => rfl, fun _ _ _ => rfl⟩
theorem sf_sub {M M' : List Nat} (hs : M'.all (fun k => M.contains k) = true) {p : Nat} (h : M.contains p = false) : M'.contains p = false := by
  cases hc : M'.contains p with
  | false => rfl
  | true =>
    have h1 := List.all_eq_true.mp hs p (List.contains_iff_mem.mp hc)
    rw [h] at h1
    cases h1
theorem sf_mt {M M' : List Nat} {w0 w w' : wq_W} (h : sf_m M w0 w) (h' : sf_m M' w w') (hs : M'.all (fun k => M.contains k) = true) : sf_m M w0 w' :=
  ⟨fun p hp => (h'.1 p (sf_sub hs hp)).trans (h.1 p hp), fun p j hp => (h'.2 p j (sf_sub hs hp)).trans (h.2 p j hp)⟩
theorem sf_ma {M : List Nat} {w w' : wq_W} (h : sf_m M w w') {p : Nat} (hp : M.contains p = false) : sf_a w' p = sf_a w p := by
  funext i
  unfold sf_a
  rw [h.1 p hp]
theorem sf_mg {M : List Nat} {w w' : wq_W} (h : sf_m M w w') {p : Nat} (hp : M.contains p = false) : sf_g w' p = sf_g w p := by
  funext i j
  unfold sf_g
  rw [h.1 p hp]
theorem sf_mL {M : List Nat} {w w' : wq_W} (h : sf_m M w w') {p : Nat} (hp : M.contains p = false) : sf_l w' p = sf_l w p := by
  funext i
  unfold sf_l
  rw [h.1 p hp]
theorem sf_mf {M : List Nat} {w w' : wq_W} (h : sf_m M w w') {p j : Nat} (hp : M.contains (1000 + 100 * p + j) = false) : sf_f w' p j = sf_f w p j := h.2 p j hp
theorem sf_R_keep {w w' : wq_W} (h : sf_R w) (h1 : sf_a w' 38 = sf_a w 38) (h2 : sf_a w' 41 = sf_a w 41) (h3 : sf_a w' 40 = sf_a w 40) (h4 : sf_a w' 72 = sf_a w 72) (h5 : sf_a w' 73 = sf_a w 73) (h6 : sf_a w' 110 = sf_a w 110) (h7 : sf_a w' 104 = sf_a w 104) (h8 : sf_f w' 71 1 = sf_f w 71 1) : sf_R w' := by
  unfold sf_R at h ⊢
  rw [h1, h2, h3, h4, h5, h6, h7, h8]
  exact h
theorem sf_R_m {M : List Nat} {w w' : wq_W} (hR : sf_R w) (h : sf_m M w w') (hM : sf_rel.all (fun k => !M.contains k) = true) : sf_R w' := by
  have hc : ∀ k, k ∈ sf_rel → M.contains k = false := fun k hk => by
    have h1 := List.all_eq_true.mp hM k hk
    simpa using h1
  exact sf_R_keep hR (sf_ma h (hc 38 (by decide))) (sf_ma h (hc 41 (by decide))) (sf_ma h (hc 40 (by decide))) (sf_ma h (hc 72 (by decide))) (sf_ma h (hc 73 (by decide))) (sf_ma h (hc 110 (by decide))) (sf_ma h (hc 104 (by decide))) (sf_mf h (hc 8101 (by decide)))
theorem sf_nI {x : Int32} (h : 0 ≤ x.toInt) : x = nI x.toInt.toNat := by
  apply Int32.toInt_inj.mp
  have h2 : x.toInt < 2 ^ 31 := Int32.toInt_lt x
  rw [nI_toInt (by omega)]
  omega
theorem sf_bd (x : Int32) : -2147483648 ≤ x.toInt ∧ x.toInt ≤ 2147483647 := by
  have h1 := Int32.le_toInt x
  have h2 := Int32.toInt_lt x
  omega
theorem sf_bl (x : Int64) : -9223372036854775808 ≤ x.toInt ∧ x.toInt ≤ 9223372036854775807 := by
  have h1 := Int64.le_toInt x
  have h2 := Int64.toInt_lt x
  omega
theorem sf_tn : ∀ t ∈ sf_t, t.2.1 ≤ 1000 ∧ t.2.2.1 ≤ 1000 := by decide +kernel
theorem sf_lim {N : Nat} {q : Prop} (h : N ≤ 1000) (hq : q) : wq_lim N q := by
  unfold wq_lim
  rw [Nat.ble_eq_true_of_le (Nat.le_trans h (by decide))]
  exact hq
theorem sf_arr {w : wq_W} (hI : sf_I w) {p n m : Nat} {lo hi : Int} (ht : sf_t[p]? = some (0, n, m, lo, hi)) : wq_n w p = some (.inl (0, (n, .inl (sf_a w p)))) ∧ (∀ i, i < n → lo ≤ (sf_a w p i).toInt ∧ (sf_a w p i).toInt ≤ hi) ∧ n ≤ 1000 := by
  obtain ⟨e, he, f, rfl, hf⟩ := hI.1 p _ ht
  have h1 : sf_a w p = f := by
    funext i
    unfold sf_a
    rw [he]
  rw [h1]
  exact ⟨he, hf, (sf_tn _ (List.mem_of_getElem? ht)).1⟩
theorem sf_arz {w : wq_W} (hI : sf_I w) {p n m : Nat} {lo hi : Int} (ht : sf_t[p]? = some (2, n, m, lo, hi)) : wq_n w p = some (.inl (2, (n, .inl (sf_a w p)))) ∧ (∀ i, i < n → lo ≤ (sf_a w p i).toInt ∧ (sf_a w p i).toInt ≤ hi) ∧ n ≤ 1000 := by
  obtain ⟨e, he, f, rfl, hf⟩ := hI.1 p _ ht
  have h1 : sf_a w p = f := by
    funext i
    unfold sf_a
    rw [he]
  rw [h1]
  exact ⟨he, hf, (sf_tn _ (List.mem_of_getElem? ht)).1⟩
theorem sf_arl {w : wq_W} (hI : sf_I w) {p n m : Nat} {lo hi : Int} (ht : sf_t[p]? = some (1, n, m, lo, hi)) : wq_n w p = some (.inl (1, (n, .inr (.inl (sf_l w p))))) ∧ n ≤ 1000 := by
  obtain ⟨e, he, f, rfl⟩ := hI.1 p _ ht
  have h1 : sf_l w p = f := by
    funext i
    unfold sf_l
    rw [he]
  rw [h1]
  exact ⟨he, (sf_tn _ (List.mem_of_getElem? ht)).1⟩
theorem sf_grd {w : wq_W} (hI : sf_I w) {p n m : Nat} {lo hi : Int} (ht : sf_t[p]? = some (3, n, m, lo, hi)) : (wq_n w p = some (.inr (.inr (n, m, sf_g w p))) ∧ ∀ i j, i < n → j < m → lo ≤ (sf_g w p i j).toInt ∧ (sf_g w p i j).toInt ≤ hi) ∧ n ≤ 1000 ∧ m ≤ 1000 := by
  obtain ⟨e, he, f, rfl, hf⟩ := hI.1 p _ ht
  have h1 : sf_g w p = f := by
    funext i j
    unfold sf_g
    rw [he]
  rw [h1]
  exact ⟨⟨he, hf⟩, sf_tn _ (List.mem_of_getElem? ht)⟩
theorem sf_obj {w : wq_W} (hI : sf_I w) {p ci m : Nat} {lo hi : Int} (ht : sf_t[p]? = some (4, ci, m, lo, hi)) : ∃ vs : List wq_V, wq_n w p = some (.inr (.inl (ci, vs))) ∧ vs.length = (sf_o ci).length ∧ ∀ (j : Nat) (z : Nat × Nat × Int × Int) (v : wq_V), (sf_o ci)[j]? = some z → vs[j]? = some v → sf_fv z v := by
  obtain ⟨e, he, vs, rfl, h1, h2⟩ := hI.1 p _ ht
  exact ⟨vs, he, h1, h2⟩
/-- a new entry at p -/
theorem sf_upd {w : wq_W} (hI : sf_I w) {p : Nat} {t : Nat × Nat × Nat × Int × Int} {e e0 : wq_E} (ht : sf_t[p]? = some t) (h0 : wq_n w p = some e0) (he : sf_E t e) (hR : sf_R (wq_u w p e)) : sf_I (wq_u w p e) := by
  refine ⟨fun q t' hq => ?_, hR⟩
  by_cases hqp : q = p
  · subst hqp
    rw [ht] at hq
    cases hq
    exact ⟨e, wq_n_u h0, he⟩
  · rw [wq_n_ne hqp]
    exact hI.1 q t' hq
theorem sf_con1 {p q : Nat} (h : ([p] : List Nat).contains q = false) : q ≠ p := fun z => by
  subst z
  simp at h
theorem sf_m_arr {w : wq_W} {p : Nat} {x y : Nat × vp_A} (h0 : wq_n w p = some (.inl x)) : sf_m [p] w (wq_u w p (.inl y)) := by
  refine ⟨fun q hq => wq_n_ne (sf_con1 hq), fun q j _ => ?_⟩
  unfold sf_f
  by_cases hqp : q = p
  · subst hqp
    rw [wq_n_u h0, h0]
  · rw [wq_n_ne hqp]
theorem sf_m_grd {w : wq_W} {p : Nat} {x y : Nat × Nat × (Nat → Nat → Int32)} (h0 : wq_n w p = some (.inr (.inr x))) : sf_m [p] w (wq_u w p (.inr (.inr y))) := by
  refine ⟨fun q hq => wq_n_ne (sf_con1 hq), fun q j _ => ?_⟩
  unfold sf_f
  by_cases hqp : q = p
  · subst hqp
    rw [wq_n_u h0, h0]
  · rw [wq_n_ne hqp]
theorem sf_in1 {M : List Nat} {p : Nat} (h : M.contains p = true) : ([p] : List Nat).all (fun k => M.contains k) = true := by
  show (M.contains p && true) = true
  rw [h]
  rfl
theorem sf_in2 {M : List Nat} {p q : Nat} (h : M.contains p = true) (h' : M.contains q = true) : ([p, q] : List Nat).all (fun k => M.contains k) = true := by
  show (M.contains p && (M.contains q && true)) = true
  rw [h, h']
  rfl
theorem sf_r1 {p : Nat} (h : sf_rel.contains p = false) : sf_rel.all (fun k => !([p] : List Nat).contains k) = true := by
  refine List.all_eq_true.mpr fun k hk => ?_
  have h1 : k ≠ p := fun z => by
    subst z
    rw [List.contains_iff_mem.mpr hk] at h
    cases h
  simp [h1]
