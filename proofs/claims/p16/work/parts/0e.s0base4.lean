/-! The last row that fits; up the parents. -/
def sr_m (H La F T : Nat → Int32) (h l d : Int) (i : Nat) : Bool := decide ((H i).toInt = h ∧ (La i).toInt = l ∧ (F i).toInt ≤ d ∧ d ≤ (T i).toInt)
theorem sr_mt {H La F T : Nat → Int32} {h l d : Int} {i : Nat} (hh : (H i).toInt = h ∧ (La i).toInt = l ∧ (F i).toInt ≤ d ∧ d ≤ (T i).toInt) : sr_m H La F T h l d i = true := decide_eq_true hh
theorem sr_mf {H La F T : Nat → Int32} {h l d : Int} {i : Nat} (hh : ¬ ((H i).toInt = h ∧ (La i).toInt = l ∧ (F i).toInt ≤ d ∧ d ≤ (T i).toInt)) : sr_m H La F T h l d i = false := decide_eq_false hh
def sr_l (m : Nat → Bool) : Nat → Int
  | 0 => -1
  | n + 1 => cond (m n) (n : Int) (sr_l m n)
theorem sr_zero {m : Nat → Bool} {k : Nat} (h : k = 0) : sr_l m k = -1 := by subst h; rfl
theorem sr_stepT {m : Nat → Bool} {n k : Nat} (h : k = n + 1) (hm : m n = true) : sr_l m k = (n : Int) := by
  subst h
  show cond (m n) (n : Int) (sr_l m n) = _
  rw [hm]
  rfl
theorem sr_stepF {m : Nat → Bool} {n k : Nat} (h : k = n + 1) (hm : m n = false) : sr_l m k = sr_l m n := by
  subst h
  show cond (m n) (n : Int) (sr_l m n) = _
  rw [hm]
  rfl
theorem sr_rg (m : Nat → Bool) : ∀ n : Nat, -1 ≤ sr_l m n ∧ sr_l m n < (n : Int)
  | 0 => ⟨by show (-1 : Int) ≤ -1; decide, by show (-1 : Int) < 0; decide⟩
  | n + 1 => by
    have h := sr_rg m n
    show -1 ≤ cond (m n) (n : Int) (sr_l m n) ∧ cond (m n) (n : Int) (sr_l m n) < _
    cases m n with
    | true => constructor <;> simp <;> omega
    | false => constructor <;> simp <;> omega
theorem sr_cg {m m' : Nat → Bool} : ∀ n : Nat, (∀ i, i < n → m i = m' i) → sr_l m n = sr_l m' n
  | 0, _ => rfl
  | n + 1, h => by
    show cond (m n) (n : Int) (sr_l m n) = cond (m' n) (n : Int) (sr_l m' n)
    rw [h n (by omega), sr_cg n (fun i hi => h i (by omega))]
def sr_g (a b : Int) : Int := if a = -1 then b else a
def sr_G (H La F T : Nat → Int32) (l d : Int) (n k : Nat) : Int := sr_g (sr_l (sr_m H La F T (k : Int) l d) n) (sr_l (sr_m H La F T (k : Int) (-1) d) n)
def sr_up (p : Nat → Int32) (g : Nat → Int) : Nat → Int → Int
  | 0, _ => -1
  | f + 1, k => if k < 0 then -1 else if 0 ≤ g k.toNat then g k.toNat else sr_up p g f (p k.toNat).toInt
theorem sr_upN {p : Nat → Int32} {g : Nat → Int} {f : Nat} {k : Int} (h : k < 0) : sr_up p g f k = -1 := by
  cases f with
  | zero => rfl
  | succ f =>
    show (if k < 0 then (-1 : Int) else _) = -1
    rw [if_pos h]
theorem sr_upH {p : Nat → Int32} {g : Nat → Int} {f f0 : Nat} {k : Int} (hf : f = f0 + 1) (h : 0 ≤ k) (hg : 0 ≤ g k.toNat) : sr_up p g f k = g k.toNat := by
  subst hf
  show (if k < 0 then (-1 : Int) else if 0 ≤ g k.toNat then g k.toNat else sr_up p g f0 (p k.toNat).toInt) = _
  rw [if_neg (by omega), if_pos hg]
theorem sr_upS {p : Nat → Int32} {g : Nat → Int} {f f0 : Nat} {k : Int} (hf : f = f0 + 1) (h : 0 ≤ k) (hg : g k.toNat < 0) : sr_up p g f k = sr_up p g f0 (p k.toNat).toInt := by
  subst hf
  show (if k < 0 then (-1 : Int) else if 0 ≤ g k.toNat then g k.toNat else sr_up p g f0 (p k.toNat).toInt) = _
  rw [if_neg (by omega), if_neg (by omega)]
/-- enough fuel by the depth, whatever the parents' array is on the other side -/
theorem sr_upE {p p' f3 : Nat → Int32} {g g' : Nat → Int} {n : Int} (hJ : sf_J f3 p' n) (hp : ∀ i : Nat, (i : Int) < n → p i = p' i) (hg : ∀ i : Nat, (i : Int) < n → g i = g' i) : ∀ (d f f' : Nat) (k : Int), k < n → (0 ≤ k → (f3 k.toNat).toInt < (d : Int)) → d ≤ f → k < (f' : Int) → sr_up p g f k = sr_up p' g' f' k := by
  intro d
  induction d with
  | zero =>
    intro f f' k hk hd _ _
    have hneg : k < 0 := by
      by_cases h : 0 ≤ k
      · have h1 := hd h
        have h2 := (hJ k.toNat (by omega)).2.2.1
        omega
      · omega
    rw [sr_upN hneg, sr_upN hneg]
  | succ d ih =>
    intro f f' k hk hd hf hf'
    by_cases h : 0 ≤ k
    · obtain ⟨a1, a2, a3, a4, a5, a6⟩ := hJ k.toNat (by omega)
      have e1 : f = (f - 1) + 1 := by omega
      have e2 : f' = (f' - 1) + 1 := by omega
      have hgk := hg k.toNat (by omega)
      by_cases hq : 0 ≤ g' k.toNat
      · rw [sr_upH e1 h (by rw [hgk]; exact hq), sr_upH e2 h hq, hgk]
      · rw [sr_upS e1 h (by rw [hgk]; omega), sr_upS e2 h (by omega), hp k.toNat (by omega)]
        have h9 := hd h
        refine ih (f - 1) (f' - 1) _ (by omega) (fun h8 => ?_) (by omega) (by omega)
        have h7 := a6 h8
        omega
    · rw [sr_upN (by omega), sr_upN (by omega)]
theorem sr_up0 {p : Nat → Int32} {g : Nat → Int} {f : Nat} {k : Int} (h : f = 0) : sr_up p g f k = -1 := by subst h; rfl
theorem sr_gv {H La F T : Nat → Int32} {l d : Int} {n : Nat} {k : Int} (hk : 0 ≤ k) {a b : Int} (ha : a = sr_l (sr_m H La F T k l d) n) (hb : b = sr_l (sr_m H La F T k (-1) d) n) : sr_G H La F T l d n k.toNat = sr_g a b := by
  show sr_g (sr_l (sr_m H La F T ((k.toNat : Nat) : Int) l d) n) (sr_l (sr_m H La F T ((k.toNat : Nat) : Int) (-1) d) n) = _
  rw [show ((k.toNat : Nat) : Int) = k by omega, ← ha, ← hb]
theorem sr_gv1 {H La F T : Nat → Int32} {l d : Int} {n : Nat} {k : Int} (hk : 0 ≤ k) {a : Int} (ha : a = sr_l (sr_m H La F T k l d) n) (hne : a ≠ -1) : sr_G H La F T l d n k.toNat = a := by
  show sr_g (sr_l (sr_m H La F T ((k.toNat : Nat) : Int) l d) n) (sr_l (sr_m H La F T ((k.toNat : Nat) : Int) (-1) d) n) = _
  rw [show ((k.toNat : Nat) : Int) = k by omega, ← ha]
  exact if_neg hne
theorem sr_gS {a b : Int} (h : a = -1) : sr_g a b = b := if_pos h
/-- fuel beyond the number is enough where parents fall -/
theorem sr_upF {p : Nat → Int32} {g : Nat → Int} (hp : ∀ i : Nat, i < 24 → (p i).toInt < (i : Int)) : ∀ (f f' : Nat) (k : Int), k < 24 → k < (f : Int) → k < (f' : Int) → sr_up p g f k = sr_up p g f' k := by
  intro f
  induction f with
  | zero =>
    intro f' k _ hk _
    rw [sr_upN (by omega), sr_upN (by omega)]
  | succ f ih =>
    intro f' k h24 hk hk'
    by_cases h : 0 ≤ k
    · have e2 : f' = (f' - 1) + 1 := by omega
      have hpk := hp k.toNat (by omega)
      by_cases hq : 0 ≤ g k.toNat
      · rw [sr_upH rfl h hq, sr_upH e2 h hq]
      · rw [sr_upS rfl h (by omega), sr_upS e2 h (by omega)]
        exact ih (f' - 1) _ (by omega) (by omega) (by omega)
    · rw [sr_upN (by omega), sr_upN (by omega)]
theorem sr_mE {H La F T H' La' F' T' : Nat → Int32} {n : Int} (h1 : sf_Q n H H') (h2 : sf_Q n La La') (h3 : sf_Q n F F') (h4 : sf_Q n T T') (h l d : Int) : sr_l (sr_m H La F T h l d) n.toNat = sr_l (sr_m H' La' F' T' h l d) n.toNat := by
  refine sr_cg _ fun i hi => ?_
  unfold sr_m
  rw [h1 i (by omega), h2 i (by omega), h3 i (by omega), h4 i (by omega)]
theorem sr_gE {H La F T H' La' F' T' : Nat → Int32} {n m : Int} (h1 : sf_Q n H H') (h2 : sf_Q n La La') (h3 : sf_Q n F F') (h4 : sf_Q n T T') (l d : Int) (hm : m = n) (k : Nat) : sr_G H La F T l d m.toNat k = sr_G H' La' F' T' l d n.toNat k := by
  subst hm
  show sr_g (sr_l (sr_m H La F T (k : Int) l d) m.toNat) (sr_l (sr_m H La F T (k : Int) (-1) d) m.toNat) = sr_g (sr_l (sr_m H' La' F' T' (k : Int) l d) m.toNat) (sr_l (sr_m H' La' F' T' (k : Int) (-1) d) m.toNat)
  rw [sr_mE h1 h2 h3 h4, sr_mE h1 h2 h3 h4]
theorem sf_fb {w : wq_W} (hI : sf_I w) {ci j p m q : Nat} {lo hi lo' hi' : Int} (ht : sf_t[p]? = some (4, ci, m, lo', hi')) (ho : (sf_o ci)[j]? = some (1, q, lo, hi)) : lo ≤ (sf_f w p j).toInt ∧ (sf_f w p j).toInt ≤ hi := by
  obtain ⟨vs, h1, h2, h3⟩ := sf_obj hI ht
  have hj : j < vs.length := by
    rw [h2]
    exact (List.getElem?_eq_some_iff.mp ho).1
  have h4 : vs[j]? = some vs[j] := List.getElem?_eq_getElem hj
  obtain ⟨x, h5, h6, h7⟩ := h3 j _ _ ho h4
  have h8 : sf_f w p j = x := by
    unfold sf_f
    simp only [h1, h4, h5]
    rfl
  rw [h8]
  exact ⟨h6, h7⟩
