section SG
variable {w w' : wq_W} {i v : Int32}
theorem sf_uu {f : Nat → Int32} {j x : Nat} {v : Int32} : upd f j v x = if x = j then v else f x := rfl
theorem sf_R_fl (hI : sf_I w) (hm : sf_m [41] w w') (hu : sf_a w' 41 = upd (sf_a w 41) i.toInt.toNat v) (h1 : v.toInt + (sf_a w 38 i.toInt.toNat).toInt ≤ 40) (h2 : (sf_a w 40 i.toInt.toNat).toInt ≠ 0) : sf_R w' := by
  obtain ⟨hA, hB, hC⟩ := hI.2
  unfold sf_R
  rw [sf_ma hm (p := 38) rfl, sf_ma hm (p := 40) rfl, sf_ma hm (p := 72) rfl, sf_ma hm (p := 73) rfl, sf_ma hm (p := 110) rfl, sf_ma hm (p := 104) rfl, sf_mf hm (p := 71) (j := 1) rfl, hu]
  refine ⟨hA, fun d hd => ?_, hC⟩
  rw [sf_uu]
  split
  · rename_i hdi
    rw [hdi]
    exact ⟨h1, fun h => absurd h h2⟩
  · exact hB d hd
theorem sf_R_ln (hI : sf_I w) (hm : sf_m [38] w w') (hu : sf_a w' 38 = upd (sf_a w 38) i.toInt.toNat v) (h1 : (sf_a w 41 i.toInt.toNat).toInt + v.toInt ≤ 40) : sf_R w' := by
  obtain ⟨hA, hB, hC⟩ := hI.2
  unfold sf_R
  rw [sf_ma hm (p := 41) rfl, sf_ma hm (p := 40) rfl, sf_ma hm (p := 72) rfl, sf_ma hm (p := 73) rfl, sf_ma hm (p := 110) rfl, sf_ma hm (p := 104) rfl, sf_mf hm (p := 71) (j := 1) rfl, hu]
  refine ⟨hA, fun d hd => ⟨?_, (hB d hd).2⟩, hC⟩
  rw [sf_uu]
  split
  · rename_i hdi
    rw [hdi]
    exact h1
  · exact (hB d hd).1
theorem sf_R_ac (hI : sf_I w) (hm : sf_m [40] w w') (hu : sf_a w' 40 = upd (sf_a w 40) i.toInt.toNat v) (h1 : v.toInt ≠ 0) : sf_R w' := by
  obtain ⟨hA, hB, hC⟩ := hI.2
  unfold sf_R
  rw [sf_ma hm (p := 41) rfl, sf_ma hm (p := 38) rfl, sf_ma hm (p := 72) rfl, sf_ma hm (p := 73) rfl, sf_ma hm (p := 110) rfl, sf_ma hm (p := 104) rfl, sf_mf hm (p := 71) (j := 1) rfl, hu]
  refine ⟨hA, fun d hd => ⟨(hB d hd).1, ?_⟩, hC⟩
  rw [sf_uu]
  split
  · exact fun h => absurd h h1
  · exact (hB d hd).2
theorem sf_R_pa (hI : sf_I w) (hm : sf_m [72] w w') (hu : sf_a w' 72 = upd (sf_a w 72) i.toInt.toNat v) (h0 : 0 ≤ i.toInt) (h1 : v.toInt < i.toInt) : sf_R w' := by
  obtain ⟨⟨hA, hA2, hA3⟩, hB, hC⟩ := hI.2
  unfold sf_R
  rw [sf_ma hm (p := 41) rfl, sf_ma hm (p := 38) rfl, sf_ma hm (p := 40) rfl, sf_ma hm (p := 73) rfl, sf_ma hm (p := 110) rfl, sf_ma hm (p := 104) rfl, sf_mf hm (p := 71) (j := 1) rfl, hu]
  refine ⟨⟨fun h hh hn => ?_, fun hh => ?_, ?_⟩, hB, hC⟩
  · rw [sf_uu]
    split
    · omega
    · exact hA h hh hn
  · rw [sf_uu]
    split
    · omega
    · exact hA2 hh
  · rcases hA3 with h | h
    · exact Or.inl h
    · refine Or.inr ?_
      rw [sf_uu]
      split
      · omega
      · exact h
theorem sf_R_rk (hI : sf_I w) (hm : sf_m [73] w w') (hu : sf_a w' 73 = upd (sf_a w 73) i.toInt.toNat v) (h1 : 0 ≤ v.toInt ∨ (sf_a w 72 0).toInt < 0) : sf_R w' := by
  obtain ⟨⟨hA, hA2, hA3⟩, hB, hC⟩ := hI.2
  unfold sf_R
  rw [sf_ma hm (p := 41) rfl, sf_ma hm (p := 38) rfl, sf_ma hm (p := 40) rfl, sf_ma hm (p := 72) rfl, sf_ma hm (p := 110) rfl, sf_ma hm (p := 104) rfl, sf_mf hm (p := 71) (j := 1) rfl, hu]
  refine ⟨⟨hA, hA2, ?_⟩, hB, hC⟩
  rw [sf_uu]
  split
  · exact h1
  · exact hA3
theorem sf_R_hd (hI : sf_I w) (hm : sf_m [71, 8101] w w') (h1 : (sf_a w 72 0).toInt < 0) : sf_R w' := by
  obtain ⟨⟨hA, hA2, hA3⟩, hB, hC⟩ := hI.2
  unfold sf_R
  rw [sf_ma hm (p := 41) rfl, sf_ma hm (p := 38) rfl, sf_ma hm (p := 40) rfl, sf_ma hm (p := 72) rfl, sf_ma hm (p := 73) rfl, sf_ma hm (p := 110) rfl, sf_ma hm (p := 104) rfl]
  exact ⟨⟨hA, fun _ => h1, Or.inr h1⟩, hB, hC⟩
theorem sf_R_fi (hI : sf_I w) (hm : sf_m [110] w w') (hu : sf_a w' 110 = upd (sf_a w 110) i.toInt.toNat v) (h0 : 0 ≤ i.toInt) (h1 : i.toInt % 3 ≠ 0 ∨ 1 ≤ v.toInt) : sf_R w' := by
  obtain ⟨hA, hB, hC⟩ := hI.2
  unfold sf_R
  rw [sf_ma hm (p := 41) rfl, sf_ma hm (p := 38) rfl, sf_ma hm (p := 40) rfl, sf_ma hm (p := 72) rfl, sf_ma hm (p := 73) rfl, sf_ma hm (p := 104) rfl, sf_mf hm (p := 71) (j := 1) rfl, hu]
  refine ⟨hA, hB, fun d k hd hk => ?_⟩
  rw [sf_uu]
  split
  · omega
  · exact hC d k hd hk
theorem sf_R_lc (hI : sf_I w) (hm : sf_m [104] w w') (hu : sf_a w' 104 = upd (sf_a w 104) i.toInt.toNat v) (h0 : 0 ≤ i.toInt) (h1 : ∀ k : Nat, (k : Int) < v.toInt → (k : Int) < (sf_a w 104 i.toInt.toNat).toInt ∨ 1 ≤ (sf_a w 110 (12 * i.toInt.toNat + 3 * k)).toInt) : sf_R w' := by
  obtain ⟨hA, hB, hC⟩ := hI.2
  unfold sf_R
  rw [sf_ma hm (p := 41) rfl, sf_ma hm (p := 38) rfl, sf_ma hm (p := 40) rfl, sf_ma hm (p := 72) rfl, sf_ma hm (p := 73) rfl, sf_ma hm (p := 110) rfl, sf_mf hm (p := 71) (j := 1) rfl, hu]
  refine ⟨hA, hB, fun d k hd hk => ?_⟩
  rw [sf_uu] at hk
  split at hk
  · rename_i hdi
    rcases h1 k hk with h | h
    · exact hC d k hd (by rw [hdi]; exact h)
    · rw [hdi]
      exact h
  · exact hC d k hd hk
end SG
/-! depths by parents -/
def sf_J (f3 f72 : Nat → Int32) (n : Int) : Prop := ∀ h : Nat, (h : Int) < n → -1 ≤ (f72 h).toInt ∧ (f72 h).toInt < (h : Int) ∧ 0 ≤ (f3 h).toInt ∧ (f3 h).toInt ≤ 5 ∧ ((f72 h).toInt = -1 → (f3 h).toInt = 0) ∧ (0 ≤ (f72 h).toInt → (f3 h).toInt = (f3 (f72 h).toInt.toNat).toInt + 1)
def sf_F2 (f3 f3' : Nat → Int32) (n r : Int) (l : Int32) : Prop := (r ≠ 0 ∧ f3' = f3) ∨ ∃ dv : Int32, r = 0 ∧ f3' = upd f3 n.toNat dv ∧ (l.toInt = -1 → dv.toInt = 0) ∧ (0 ≤ l.toInt → dv.toInt = (f3 l.toInt.toNat).toInt + 1) ∧ 0 ≤ dv.toInt ∧ dv.toInt ≤ 5
def sf_G2 (f72 f72' : Nat → Int32) (n n' c : Int) (l : Int32) : Prop := (c ≠ 0 ∧ f72' = f72 ∧ n' = n) ∨ (c = 0 ∧ f72' = upd f72 n.toNat l ∧ n' = n + 1 ∧ -1 ≤ l.toInt ∧ l.toInt < n)
theorem sf_F2d {f3 f3' : Nat → Int32} {n r : Int} {l : Int32} (h : sf_F2 f3 f3' n r l) {x : Int32} (h0 : 0 ≤ x.toInt) (h1 : x.toInt < n) : f3' x.toInt.toNat = f3 x.toInt.toNat := by
  rcases h with ⟨-, h⟩ | ⟨dv, -, h, -⟩
  · rw [h]
  · rw [h, sf_uu, if_neg (by omega)]
theorem sf_J3 {f3 f3' f72 : Nat → Int32} {n r : Int} {l : Int32} (hJ : sf_J f3 f72 n) (h : sf_F2 f3 f3' n r l) : sf_J f3' f72 n := by
  intro x hx
  obtain ⟨a1, a2, a3, a4, a5, a6⟩ := hJ x hx
  rcases h with ⟨-, h⟩ | ⟨dv, -, h, -⟩
  · rw [h]
    exact ⟨a1, a2, a3, a4, a5, a6⟩
  · rw [h, sf_uu, if_neg (by omega)]
    refine ⟨a1, a2, a3, a4, a5, fun h9 => ?_⟩
    rw [sf_uu, if_neg (by omega)]
    exact a6 h9
theorem sf_JH {f3 f3' f72 f72' : Nat → Int32} {n n' r c : Int} {l : Int32} (hJ : sf_J f3 f72 n) (h0 : 0 ≤ n) (h : sf_F2 f3 f3' n r l) (g : sf_G2 f72 f72' n n' c l) (hrc : r = c) : sf_J f3' f72' n' := by
  rcases g with ⟨g1, g2, g3⟩ | ⟨g1, g2, g3, g4, g5⟩
  · rcases h with ⟨-, h⟩ | ⟨dv, h1, -⟩
    · rw [h, g2, g3]
      exact hJ
    · exact absurd h1 (by omega)
  · rcases h with ⟨h1, -⟩ | ⟨dv, -, h, h2, h3, h4, h5⟩
    · exact absurd g1 (by omega)
    · rw [h, g2, g3]
      intro x hx
      by_cases hxn : x = n.toNat
      · rw [sf_uu, sf_uu, if_pos hxn, if_pos hxn]
        refine ⟨g4, by omega, h4, h5, h2, fun h9 => ?_⟩
        rw [sf_uu, if_neg (by omega)]
        exact h3 h9
      · obtain ⟨a1, a2, a3, a4, a5, a6⟩ := hJ x (by omega)
        rw [sf_uu, sf_uu, if_neg hxn, if_neg hxn]
        refine ⟨a1, a2, a3, a4, a5, fun h9 => ?_⟩
        rw [sf_uu, if_neg (by omega)]
        exact a6 h9
/-! rows of both sides alike below the count -/
def sf_U (f f' : Nat → Int32) (n r : Int) (v : Int32) : Prop := (r ≠ 0 ∧ f' = f) ∨ (r = 0 ∧ f' = upd f n.toNat v)
def sf_Q (n : Int) (f g : Nat → Int32) : Prop := ∀ i : Nat, (i : Int) < n → f i = g i
theorem sf_QH {f f' g g' : Nat → Int32} {n n' m r c : Int} {v : Int32} (h : sf_Q n f g) (F : sf_U f f' m r v) (G : sf_U g g' n c v) (hm : m = n) (hrc : r = c) (hn : (r = 0 ∧ n' = n + 1) ∨ (r ≠ 0 ∧ n' = n)) : sf_Q n' f' g' := by
  subst hm
  rcases F with ⟨a1, a2⟩ | ⟨a1, a2⟩ <;> rcases G with ⟨b1, b2⟩ | ⟨b1, b2⟩
  · rw [a2, b2]
    intro i hi
    exact h i (by omega)
  · exfalso; omega
  · exfalso; omega
  · rw [a2, b2]
    intro i hi
    rw [sf_uu, sf_uu]
    split
    · rfl
    · exact h i (by omega)
/-! amounts -/
def sf_K (g : Nat → Nat → Int32) (f : Nat → Int32) : Prop := ∀ i j : Nat, i < 16 → j < 8 → g i j = f (8 * i + j)
theorem sf_KF {g : Nat → Nat → Int32} {f : Nat → Int32} (h : sf_K g f) {a b v : Int32} (ha : 0 ≤ a.toInt ∧ a.toInt ≤ 15) (hb : 0 ≤ b.toInt ∧ b.toInt ≤ 7) : sf_K (wq_up2 g a.toInt.toNat b.toInt.toNat v) (upd f (8 * a.toInt + b.toInt).toNat v) := by
  intro i j hi hj
  rw [sf_uu]
  unfold wq_up2
  split
  · split
    · rw [if_pos (by omega)]
    · rw [if_neg (by omega)]
      exact h i j hi hj
  · rw [if_neg (by omega)]
    exact h i j hi hj
theorem sf_Kv {g : Nat → Nat → Int32} {f : Nat → Int32} (h : sf_K g f) {a b : Int32} (ha : 0 ≤ a.toInt ∧ a.toInt ≤ 15) (hb : 0 ≤ b.toInt ∧ b.toInt ≤ 7) : (g a.toInt.toNat b.toInt.toNat).toInt = (f (8 * a.toInt + b.toInt).toNat).toInt := by
  rw [h _ _ (by omega) (by omega)]
  congr 2
  omega
