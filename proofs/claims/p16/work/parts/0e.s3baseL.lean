/-! Lots: what is left, what is taken. -/
def sl_mt (gd hl : Nat → Int32) (g h : Int) (k : Nat) : Bool := decide ((gd k).toInt = g ∧ (hl k).toInt = h)
theorem sl_mtT {gd hl : Nat → Int32} {g h : Int} {k : Nat} (e : (gd k).toInt = g ∧ (hl k).toInt = h) : sl_mt gd hl g h k = true := decide_eq_true e
theorem sl_mtF {gd hl : Nat → Int32} {g h : Int} {k : Nat} (e : ¬ ((gd k).toInt = g ∧ (hl k).toInt = h)) : sl_mt gd hl g h k = false := decide_eq_false e
def sl_mc (gd hl bw : Nat → Int32) (g b : Int) (k : Nat) : Bool := decide ((gd k).toInt = g ∧ (hl k).toInt = 1 ∧ (bw k).toInt = b)
theorem sl_mcT {gd hl bw : Nat → Int32} {g b : Int} {k : Nat} (e : (gd k).toInt = g ∧ (hl k).toInt = 1 ∧ (bw k).toInt = b) : sl_mc gd hl bw g b k = true := decide_eq_true e
theorem sl_mcF {gd hl bw : Nat → Int32} {g b : Int} {k : Nat} (e : ¬ ((gd k).toInt = g ∧ (hl k).toInt = 1 ∧ (bw k).toInt = b)) : sl_mc gd hl bw g b k = false := decide_eq_false e
def sl_v (un go : Nat → Int32) (k : Nat) : Int := (un k).toInt - (go k).toInt
def sl_u (un : Nat → Int32) (k : Nat) : Int := (un k).toInt
def sl_S (m : Nat → Bool) (v : Nat → Int) : Nat → Int
  | 0 => 0
  | n + 1 => sl_S m v n + cond (m n) (v n) 0
theorem sl_Sz {m : Nat → Bool} {v : Nat → Int} {k : Nat} (h : k = 0) : sl_S m v k = 0 := by subst h; rfl
theorem sl_ST {m : Nat → Bool} {v : Nat → Int} {k n : Nat} (h : k = n + 1) (hm : m n = true) : sl_S m v k = sl_S m v n + v n := by
  subst h
  show sl_S m v n + cond (m n) (v n) 0 = _
  rw [hm]
  rfl
theorem sl_SF {m : Nat → Bool} {v : Nat → Int} {k n : Nat} (h : k = n + 1) (hm : m n = false) : sl_S m v k = sl_S m v n := by
  subst h
  show sl_S m v n + cond (m n) (v n) 0 = _
  rw [hm]
  exact Int.add_zero _
theorem sl_Sb {m : Nat → Bool} {v : Nat → Int} : ∀ n : Nat, (∀ i, i < n → 0 ≤ v i ∧ v i ≤ 1000) → 0 ≤ sl_S m v n ∧ sl_S m v n ≤ 1000 * (n : Int)
  | 0, _ => ⟨Int.le_refl _, Int.le_refl _⟩
  | n + 1, h => by
    have h1 := sl_Sb (m := m) n (fun i hi => h i (by omega))
    have h2 := h n (by omega)
    cases hm : m n
    · rw [sl_SF rfl hm]
      omega
    · rw [sl_ST rfl hm]
      omega
theorem sl_Sc {m m' : Nat → Bool} {v v' : Nat → Int} : ∀ n : Nat, (∀ i, i < n → m i = m' i ∧ v i = v' i) → sl_S m v n = sl_S m' v' n
  | 0, _ => rfl
  | n + 1, h => by
    obtain ⟨h1, h2⟩ := h n (by omega)
    show sl_S m v n + cond (m n) (v n) 0 = sl_S m' v' n + cond (m' n) (v' n) 0
    rw [sl_Sc n (fun i hi => h i (by omega)), h1, h2]
def sl_m (m : Nat → Bool) (v : Nat → Int) (w : Int) : Nat → Int
  | 0 => w
  | n + 1 => sl_m m v w n - cond (m n) (min (sl_m m v w n) (v n)) 0
theorem sl_mz {m : Nat → Bool} {v : Nat → Int} {w : Int} {k : Nat} (h : k = 0) : sl_m m v w k = w := by subst h; rfl
theorem sl_mT {m : Nat → Bool} {v : Nat → Int} {w : Int} {k n : Nat} (h : k = n + 1) (hm : m n = true) : sl_m m v w k = sl_m m v w n - min (sl_m m v w n) (v n) := by
  subst h
  show sl_m m v w n - cond (m n) _ 0 = _
  rw [hm]
  rfl
theorem sl_mF {m : Nat → Bool} {v : Nat → Int} {w : Int} {k n : Nat} (h : k = n + 1) (hm : m n = false) : sl_m m v w k = sl_m m v w n := by
  subst h
  show sl_m m v w n - cond (m n) _ 0 = _
  rw [hm]
  exact Int.sub_zero _
theorem sl_mb {m : Nat → Bool} {v : Nat → Int} {w : Int} (hw : 0 ≤ w) : ∀ n : Nat, (∀ i, i < n → 0 ≤ v i) → 0 ≤ sl_m m v w n ∧ sl_m m v w n ≤ w
  | 0, _ => ⟨hw, Int.le_refl _⟩
  | n + 1, h => by
    have h1 := sl_mb (m := m) hw n (fun i hi => h i (by omega))
    have h2 := h n (by omega)
    cases hm : m n
    · rw [sl_mF rfl hm]
      exact h1
    · rw [sl_mT rfl hm]
      omega
/-- what is taken of one lot -/
theorem sl_mk {m : Nat → Bool} {v : Nat → Int} {w : Int} (hw : 0 ≤ w) {n : Nat} (h : ∀ i, i < n + 1 → 0 ≤ v i) : 0 ≤ sl_m m v w n - sl_m m v w (n + 1) ∧ sl_m m v w n - sl_m m v w (n + 1) ≤ v n := by
  have h1 := sl_mb (m := m) hw n (fun i hi => h i (by omega))
  have h2 := h n (by omega)
  cases hm : m n
  · rw [sl_mF rfl hm]
    omega
  · rw [sl_mT rfl hm]
    omega
theorem sl_m0 {m : Nat → Bool} {v : Nat → Int} {w : Int} {n : Nat} (h0 : sl_m m v w n = 0) : ∀ j : Nat, (∀ i, i < n + j → 0 ≤ v i) → sl_m m v w (n + j) = 0
  | 0, _ => h0
  | j + 1, h => by
    have h1 := sl_m0 h0 j (fun i hi => h i (by omega))
    have h2 := h (n + j) (by omega)
    cases hm : m (n + j)
    · rw [sl_mF (n := n + j) (by omega) hm]
      exact h1
    · rw [sl_mT (n := n + j) (by omega) hm, h1]
      omega
theorem sl_mC {m m' : Nat → Bool} {v v' : Nat → Int} {w w' : Int} (hw : w = w') : ∀ n : Nat, (∀ i, i < n → m i = m' i ∧ v i = v' i) → sl_m m v w n = sl_m m' v' w' n
  | 0, _ => hw
  | n + 1, h => by
    obtain ⟨h1, h2⟩ := h n (by omega)
    show sl_m m v w n - cond (m n) _ 0 = sl_m m' v' w' n - cond (m' n) _ 0
    rw [sl_mC hw n (fun i hi => h i (by omega)), h1, h2]
def sl_t (m : Nat → Bool) (v : Nat → Int) (w : Int) (n k : Nat) : Int := if k < n then sl_m m v w k - sl_m m v w (k + 1) else 0
def sl_T (go go' : Nat → Int32) (m : Nat → Bool) (v : Nat → Int) (w : Int) (n : Nat) : Prop := ∀ k : Nat, k < 40 → (go' k).toInt = (go k).toInt + sl_t m v w n k
theorem sl_tl {m : Nat → Bool} {v : Nat → Int} {w : Int} {n k : Nat} (h : k < n) : sl_t m v w n k = sl_m m v w k - sl_m m v w (k + 1) := if_pos h
theorem sl_tg {m : Nat → Bool} {v : Nat → Int} {w : Int} {n k : Nat} (h : n ≤ k) : sl_t m v w n k = 0 := if_neg (by omega)
theorem sl_T0 {go go' : Nat → Int32} {m : Nat → Bool} {v : Nat → Int} {w : Int} {n : Nat} (h : go' = go) (hn : n = 0) : sl_T go go' m v w n := by
  intro k _
  rw [h, sl_tg (by omega)]
  omega
/-- one lot more: either nothing or a store -/
theorem sl_TS {go g1 g2 : Nat → Int32} {m : Nat → Bool} {v : Nat → Int} {w : Int} {n n' : Nat} (h : sl_T go g1 m v w n) (hn : n' = n + 1) (h40 : n < 40) (hh : (m n = false ∧ g2 = g1) ∨ (m n = true ∧ ∃ z : Int32, g2 = upd g1 n z ∧ z.toInt = (g1 n).toInt + min (sl_m m v w n) (v n))) : sl_T go g2 m v w n' := by
  intro k hk
  have h1 := h k hk
  subst hn
  by_cases hkn : k = n
  · subst hkn
    rw [sl_tg (Nat.le_refl _)] at h1
    rw [sl_tl (by omega)]
    rcases hh with ⟨a1, a2⟩ | ⟨a1, z, a2, a3⟩
    · rw [a2, sl_mF rfl a1]
      omega
    · rw [a2, sf_uu, if_pos rfl, sl_mT rfl a1]
      omega
  · have e : g2 k = g1 k := by
      rcases hh with ⟨_, a2⟩ | ⟨_, z, a2, _⟩
      · rw [a2]
      · rw [a2, sf_uu, if_neg hkn]
    rw [e, h1]
    by_cases hlt : k < n
    · rw [sl_tl hlt, sl_tl (by omega)]
    · rw [sl_tg (by omega), sl_tg (by omega)]
theorem sl_TE {go go' : Nat → Int32} {m : Nat → Bool} {v : Nat → Int} {w : Int} {n N : Nat} (h : sl_T go go' m v w n) (hv : ∀ i, i < 40 → 0 ≤ v i) (hN : N ≤ 40) (hh : n = N ∨ (n ≤ N ∧ sl_m m v w n = 0)) : sl_T go go' m v w N := by
  intro k hk
  have h1 := h k hk
  rcases hh with rfl | ⟨h2, h3⟩
  · exact h1
  · by_cases hkn : k < n
    · rw [sl_tl hkn] at h1
      rw [sl_tl (by omega)]
      exact h1
    · rw [sl_tg (by omega)] at h1
      by_cases hkN : k < N
      · have h5 := sl_m0 h3 (k - n) (fun i hi => hv i (by omega))
        have h6 := sl_m0 h3 (k + 1 - n) (fun i hi => hv i (by omega))
        rw [show n + (k - n) = k by omega] at h5
        rw [show n + (k + 1 - n) = k + 1 by omega] at h6
        rw [sl_tl hkN, h5, h6]
        omega
      · rw [sl_tg (by omega)]
        exact h1
/-- both sides take alike -/
theorem sl_TT {go go' ho ho' : Nat → Int32} {m m' : Nat → Bool} {v v' : Nat → Int} {w w' : Int} {n n' : Nat} (h : sl_T go go' m v w n) (h' : sl_T ho ho' m' v' w' n') (hn : n = n') (hw : w = w') (hg : ∀ i, i < 40 → (go i).toInt = (ho i).toInt) (hm : ∀ i, i < 40 → m i = m' i ∧ v i = v' i) (k : Nat) (hk : k < 40) : (go' k).toInt = (ho' k).toInt := by
  subst hn hw
  rw [h k hk, h' k hk, hg k hk]
  unfold sl_t
  rw [sl_mC rfl k (fun i hi => hm i (by omega)), sl_mC rfl (k + 1) (fun i hi => hm i (by omega))]
/-- the invariant stays -/
theorem sl_TB {go go' : Nat → Int32} {m : Nat → Bool} {v : Nat → Int} {w : Int} {n : Nat} (h : sl_T go go' m v w n) (hw : 0 ≤ w) (hv : ∀ i, i < 40 → 0 ≤ v i) (k : Nat) (hk : k < 40) : (go k).toInt ≤ (go' k).toInt ∧ (go' k).toInt ≤ (go k).toInt + v k ∧ (n ≤ k → (go' k).toInt = (go k).toInt) := by
  have h1 := h k hk
  have hvk := hv k hk
  by_cases hkn : k < n
  · rw [sl_tl hkn] at h1
    have h2 := sl_mk (m := m) (w := w) (v := v) hw (n := k) (fun i hi => hv i (by omega))
    omega
  · rw [sl_tg (by omega)] at h1
    omega
def sl_B (un go : Nat → Int32) : Prop := ∀ i : Nat, i < 40 → 0 ≤ (go i).toInt ∧ (go i).toInt ≤ (un i).toInt ∧ (un i).toInt ≤ 1000
theorem sl_Bv {un go : Nat → Int32} (h : sl_B un go) {i : Nat} (hi : i < 40) : 0 ≤ sl_v un go i ∧ sl_v un go i ≤ 1000 := by
  have h1 := h i hi
  unfold sl_v
  omega
theorem sl_Bu {un go : Nat → Int32} (h : sl_B un go) {i : Nat} (hi : i < 40) : 0 ≤ sl_u un i ∧ sl_u un i ≤ 1000 := by
  have h1 := h i hi
  unfold sl_u
  omega
/-! one lot, unit by unit -/
def sl_J (go go' un : Nat → Int32) (m : Nat → Bool) (v : Nat → Int) (w : Int) (k : Nat) (due : Int) : Prop := (∀ j : Nat, j < 40 → j ≠ k → (go' j).toInt = (go j).toInt + sl_t m v w k j) ∧ (go k).toInt ≤ (go' k).toInt ∧ due + ((go' k).toInt - (go k).toInt) = sl_m m v w k ∧ (go' k).toInt ≤ (un k).toInt ∧ 0 ≤ due ∧ (m k = false → (go' k).toInt = (go k).toInt)
theorem sl_J0 {go go' un : Nat → Int32} {m : Nat → Bool} {v : Nat → Int} {w due : Int} {k : Nat} (h : sl_T go go' m v w k) (hB : sl_B un go) (hk : k < 40) (hd : due = sl_m m v w k) (h0 : 0 ≤ due) : sl_J go go' un m v w k due := by
  have h1 := h k hk
  rw [sl_tg (Nat.le_refl _)] at h1
  have h2 := hB k hk
  exact ⟨fun j hj _ => h j hj, by omega, by omega, by omega, h0, fun _ => by omega⟩
theorem sl_JS {go g1 g2 un : Nat → Int32} {m : Nat → Bool} {v : Nat → Int} {w due due' : Int} {k : Nat} {z : Int32} (h : sl_J go g1 un m v w k due) (hm : m k = true) (hd : due' = due - 1) (h1 : 1 ≤ due) (hlt : (g1 k).toInt < (un k).toInt) (hg : g2 = upd g1 k z) (hz : z.toInt = (g1 k).toInt + 1) : sl_J go g2 un m v w k due' := by
  obtain ⟨a1, a2, a3, a4, a5, a6⟩ := h
  subst hg
  have e : (upd g1 k z k).toInt = (g1 k).toInt + 1 := by rw [sf_uu, if_pos rfl, hz]
  refine ⟨fun j hj hjk => ?_, by omega, by omega, by omega, by omega, fun h9 => ?_⟩
  · rw [sf_uu, if_neg hjk]
    exact a1 j hj hjk
  · rw [hm] at h9
    cases h9
theorem sl_JE {go go' un : Nat → Int32} {m : Nat → Bool} {v : Nat → Int} {w due : Int} {k k' : Nat} (h : sl_J go go' un m v w k due) (hk : k < 40) (hk' : k' = k + 1) (hv : v k = (un k).toInt - (go k).toInt) (hh : due ≤ 0 ∨ m k = false ∨ (un k).toInt ≤ (go' k).toInt) : sl_T go go' m v w k' ∧ due = sl_m m v w k' := by
  obtain ⟨a1, a2, a3, a4, a5, a6⟩ := h
  subst hk'
  have hd : due = sl_m m v w (k + 1) := by
    cases hm : m k
    · rw [sl_mF rfl hm]
      have := a6 hm
      omega
    · rw [sl_mT rfl hm]
      rw [hm] at hh
      have : due ≤ 0 ∨ (un k).toInt ≤ (go' k).toInt := by
        rcases hh with h | h | h
        · exact Or.inl h
        · cases h
        · exact Or.inr h
      omega
  refine ⟨fun j hj => ?_, hd⟩
  by_cases hjk : j = k
  · subst hjk
    rw [sl_tl (by omega)]
    omega
  · rw [a1 j hj hjk]
    by_cases hlt : j < k
    · rw [sl_tl hlt, sl_tl (by omega)]
    · rw [sl_tg (by omega), sl_tg (by omega)]
/-! Rows written one after the other. -/
def sl_W (f : Nat → Int32) (ix : Nat → Nat) (sr : Nat → Int32) : Nat → Nat → Int32
  | 0 => f
  | n + 1 => upd (sl_W f ix sr n) (ix n) (sr n)
theorem sl_W0 {f f' : Nat → Int32} {ix : Nat → Nat} {sr : Nat → Int32} {n : Nat} (h : f' = f) (hn : n = 0) : f' = sl_W f ix sr n := by subst hn; exact h
theorem sl_WS {f f1 f2 : Nat → Int32} {ix : Nat → Nat} {sr : Nat → Int32} {n n' i : Nat} {v : Int32} (h : f1 = sl_W f ix sr n) (hn : n' = n + 1) (hf : f2 = upd f1 i v) (hi : i = ix n) (hv : v = sr n) : f2 = sl_W f ix sr n' := by
  subst hn hi hv h
  exact hf
theorem sl_Wc {f g : Nat → Int32} {ix iy : Nat → Nat} {sr ss : Nat → Int32} {m : Int} (hf : sf_Q m f g) : ∀ n : Nat, (∀ k, k < n → ix k = iy k ∧ sr k = ss k) → sf_Q m (sl_W f ix sr n) (sl_W g iy ss n)
  | 0, _ => hf
  | n + 1, h => by
    intro i hi
    have h1 := sl_Wc hf n (fun k hk => h k (by omega)) i hi
    obtain ⟨h2, h3⟩ := h n (by omega)
    show upd (sl_W f ix sr n) (ix n) (sr n) i = upd (sl_W g iy ss n) (iy n) (ss n) i
    rw [sf_uu, sf_uu, h2, h3, h1]
theorem sl_Wv {f : Nat → Int32} {ix : Nat → Nat} {sr : Nat → Int32} (i : Nat) : ∀ n : Nat, (sl_W f ix sr n i = f i ∧ ∀ k, k < n → ix k ≠ i) ∨ ∃ k, k < n ∧ ix k = i ∧ sl_W f ix sr n i = sr k
  | 0 => Or.inl ⟨rfl, fun k hk => absurd hk (by omega)⟩
  | n + 1 => by
    show (upd (sl_W f ix sr n) (ix n) (sr n) i = f i ∧ _) ∨ ∃ k, k < n + 1 ∧ ix k = i ∧ upd (sl_W f ix sr n) (ix n) (sr n) i = sr k
    rw [sf_uu]
    by_cases h : i = ix n
    · rw [if_pos h]
      exact Or.inr ⟨n, by omega, h.symm, rfl⟩
    · rw [if_neg h]
      rcases sl_Wv (f := f) (ix := ix) (sr := sr) i n with ⟨h1, h2⟩ | ⟨k, hk, h1, h2⟩
      · refine Or.inl ⟨h1, fun k hk => ?_⟩
        by_cases hkn : k = n
        · subst hkn
          exact fun e => h e.symm
        · exact h2 k (by omega)
      · exact Or.inr ⟨k, by omega, h1, h2⟩
def sl_ix (b : Int) (k : Nat) : Nat := (b + (k : Int)).toNat
def sl_iy (f : Nat → Int32) (b k : Nat) : Nat := (f (b + k)).toInt.toNat
def sl_sr (f : Nat → Int32) (b k : Nat) : Int32 := f (b + k)
def sl_s3 (f : Nat → Int32) (b k : Nat) : Int32 := f (3 * (b + k))
def sl_kk (v : Int32) (_ : Nat) : Int32 := v
/-! what a rate needs -/
def sc_b (p Hd K F A f3 : Nat → Int32) (am : Nat → Nat → Int) (nN nH : Int) (g : Int) : Int := sj_B (sp_fi p Hd K F A (am g.toNat) nN.toNat) (sp_d f3) (sp_sh p Hd K F (am g.toNat) nN.toNat) nH.toNat
def sc_rc (B : Int → Int) (p rH rL rF rT : Nat → Int32) (nR : Int) (gd ld : Nat → Int32) (dy : Int) (b k : Nat) : Int := if B (gd (b + k)).toInt < 0 then -1 else sr_up p (sr_G rH rL rF rT (ld (b + k)).toInt dy nR.toNat) 6 (B (gd (b + k)).toInt)
def sc_rm (B : Int → Int) (p rH rL rF rT : Nat → Int32) (nR : Int) (gd ld : Nat → Int32) (dy : Int) (b k : Nat) : Int := if B (gd (b + k)).toInt < 0 then -1 else sr_up p (sr_G rH rL rF rT (ld (b + k)).toInt dy nR.toNat) (B (gd (b + k)).toInt + 1).toNat (B (gd (b + k)).toInt)
def sc_ok (rr : Nat → Int) (n : Int) : Prop := 0 < n ∧ ∀ k : Nat, (k : Int) < n → 0 ≤ rr k
theorem sc_okE {r r' : Nat → Int} {n n' : Int} (hn : n = n') (h : ∀ k : Nat, (k : Int) < n → r k = r' k) : sc_ok r n ↔ sc_ok r' n' := by
  subst hn
  unfold sc_ok
  constructor
  · rintro ⟨h1, h2⟩
    exact ⟨h1, fun k hk => by rw [← h k hk]; exact h2 k hk⟩
  · rintro ⟨h1, h2⟩
    exact ⟨h1, fun k hk => by rw [h k hk]; exact h2 k hk⟩
/-! later -/
def sl_lt (dy mi : Nat → Int32) (a b : Nat) : Prop := (dy b).toInt < (dy a).toInt ∨ ((dy a).toInt = (dy b).toInt ∧ ((mi b).toInt < (mi a).toInt ∨ ((mi a).toInt = (mi b).toInt ∧ b < a)))
def sl_LA (dy mi ac : Nat → Int32) (n : Int) (d : Nat) : Prop := ∃ o : Nat, (o : Int) < n ∧ (ac o).toInt = 1 ∧ sl_lt dy mi o d
def sl_LT (dy mi : Nat → Int32) (la : Int) (d : Nat) : Prop := 0 ≤ la ∧ sl_lt dy mi la.toNat d
def sl_RT (dy mi ac : Nat → Int32) (n la : Int) : Prop := (la = -1 ∧ ∀ o : Nat, (o : Int) < n → (ac o).toInt ≠ 1) ∨ (0 ≤ la ∧ la < n ∧ (ac la.toNat).toInt = 1 ∧ ∀ o : Nat, (o : Int) < n → (ac o).toInt = 1 → ¬ sl_lt dy mi o la.toNat)
theorem sl_lts {dy mi dy' mi' : Nat → Int32} {n : Int} (h1 : sf_Q n dy dy') (h2 : sf_Q n mi mi') {a b : Nat} (ha : (a : Int) < n) (hb : (b : Int) < n) : sl_lt dy mi a b ↔ sl_lt dy' mi' a b := by
  unfold sl_lt
  rw [h1 a ha, h1 b hb, h2 a ha, h2 b hb]
theorem sl_LE {dy mi ac dy' mi' ac' : Nat → Int32} {n n' la : Int} {d : Nat} (hn : n' = n) (h1 : sf_Q n dy dy') (h2 : sf_Q n mi mi') (h3 : sf_Q 12 ac ac') (h12 : n ≤ 12) (hd : (d : Int) < n) (hT : sl_RT dy' mi' ac' n la) : sl_LA dy mi ac n' d ↔ sl_LT dy' mi' la d := by
  subst hn
  constructor
  · rintro ⟨o, ho, h4, h5⟩
    have h6 : (ac' o).toInt = 1 := by rw [← h3 o (by omega)]; exact h4
    rcases hT with ⟨_, t2⟩ | ⟨t1, t2, t3, t4⟩
    · exact absurd h6 (t2 o ho)
    · refine ⟨t1, ?_⟩
      have h7 := t4 o ho h6
      have h8 := (sl_lts h1 h2 ho hd).mp h5
      unfold sl_lt at h7 h8 ⊢
      omega
  · rintro ⟨h4, h5⟩
    rcases hT with ⟨t1, _⟩ | ⟨t1, t2, t3, t4⟩
    · omega
    · refine ⟨la.toNat, by omega, ?_, (sl_lts h1 h2 (by omega) hd).mpr h5⟩
      rw [h3 _ (by omega)]
      exact t3
theorem sl_RTa {dy mi ac ac' : Nat → Int32} {n la la' : Int} {d : Nat} {v : Int32} (hd : (d : Int) < n) (hT : sl_RT dy mi ac n la) (hn : ¬ sl_LT dy mi la d) (ha : ac' = upd ac d v) (hv : v.toInt = 1) (hl : la' = (d : Int)) : sl_RT dy mi ac' n la' := by
  subst hl ha
  refine Or.inr ⟨by omega, hd, ?_, fun o ho h1 => ?_⟩
  · rw [sf_uu, if_pos (by omega)]
    exact hv
  · rw [Int.toNat_natCast]
    by_cases hod : o = d
    · subst hod
      unfold sl_lt
      omega
    · rw [sf_uu, if_neg hod] at h1
      rcases hT with ⟨_, t2⟩ | ⟨t1, t2, t3, t4⟩
      · exact absurd h1 (t2 o ho)
      · have h2 := t4 o ho h1
        have h3 : ¬ sl_lt dy mi la.toNat d := fun z => hn ⟨t1, z⟩
        unfold sl_lt at h2 h3 ⊢
        omega
/-! Lots of both sides. -/
def sl_RL (cn cm : Int) (g u o h b g' u' o' h' b' : Nat → Int32) : Prop := cn = cm ∧ sf_Q 40 g g' ∧ sf_Q 40 u u' ∧ sf_Q 40 o o' ∧ sf_Q 40 h h' ∧ sf_Q 40 b b' ∧ sl_B u' o' ∧ ∀ i : Nat, i < 40 → cm ≤ (i : Int) → (o' i).toInt = 0
theorem sl_Bq {u o u' o' : Nat → Int32} (hu : sf_Q 40 u u') (ho : sf_Q 40 o o') (h : sl_B u' o') : sl_B u o := fun i hi => by
  rw [hu i (by omega), ho i (by omega)]
  exact h i hi
theorem sl_RLt {cn cm : Int} {g u o h b g' u' o' h' b' o1 o1' : Nat → Int32} {gg hh w : Int} (R : sl_RL cn cm g u o h b g' u' o' h' b') (hw : 0 ≤ w) (F : sl_T o o1 (sl_mt g h gg hh) (sl_v u o) w cn.toNat) (G : sl_T o' o1' (sl_mt g' h' gg hh) (sl_v u' o') w cm.toNat) : sl_RL cn cm g u o1 h b g' u' o1' h' b' := by
  obtain ⟨r1, r2, r3, r4, r5, r6, r7, r8⟩ := R
  subst r1
  have hb := sl_TB G hw (fun i hi => (sl_Bv r7 hi).1)
  refine ⟨rfl, r2, r3, fun i hi => ?_, r5, r6, fun i hi => ?_, fun i hi hc => ?_⟩
  · refine Int32.toInt_inj.mp (sl_TT F G rfl rfl (fun k hk => by rw [r4 k (by omega)]) (fun k hk => ?_) i (by omega))
    unfold sl_mt sl_v
    rw [r2 k (by omega), r3 k (by omega), r4 k (by omega), r5 k (by omega)]
    exact ⟨rfl, rfl⟩
  · have h1 := hb i hi
    have h2 := r7 i hi
    have h3 : sl_v u' o' i = (u' i).toInt - (o' i).toInt := rfl
    omega
  · have h1 := (hb i hi).2.2 (by omega)
    rw [h1]
    exact r8 i hi hc
theorem sl_upQ {m : Int} {f f' g g' : Nat → Int32} {i j : Nat} {v v' : Int32} (h : sf_Q m f g) (hf : f' = upd f i v) (hg : g' = upd g j v') (hij : i = j) (hv : v.toInt = v'.toInt) : sf_Q m f' g' := by
  intro k hk
  rw [hf, hg, sf_uu, sf_uu, hij, Int32.toInt_inj.mp hv, h k hk]
theorem sl_RLa {cn cm : Int} {g u o h b g' u' o' h' b' g1 u1 h1 b1 g1' u1' h1' b1' : Nat → Int32} {cn1 cm1 : Int} {x y z t x' y' z' t' : Int32} (R : sl_RL cn cm g u o h b g' u' o' h' b') (h0 : 0 ≤ cm) (hc : cn1 = cn + 1) (hc' : cm1 = cm + 1) (e1 : g1 = upd g cn.toNat x) (e2 : u1 = upd u cn.toNat y) (e3 : h1 = upd h cn.toNat z) (e4 : b1 = upd b cn.toNat t) (e1' : g1' = upd g' cm.toNat x') (e2' : u1' = upd u' cm.toNat y') (e3' : h1' = upd h' cm.toNat z') (e4' : b1' = upd b' cm.toNat t') (v1 : x.toInt = x'.toInt) (v2 : y.toInt = y'.toInt) (v3 : z.toInt = z'.toInt) (v4 : t.toInt = t'.toInt) (hy : 0 ≤ y'.toInt ∧ y'.toInt ≤ 1000) : sl_RL cn1 cm1 g1 u1 o h1 b1 g1' u1' o' h1' b1' := by
  obtain ⟨r1, r2, r3, r4, r5, r6, r7, r8⟩ := R
  have hcc : cn.toNat = cm.toNat := by omega
  refine ⟨by omega, sl_upQ r2 e1 e1' hcc v1, sl_upQ r3 e2 e2' hcc v2, r4, sl_upQ r5 e3 e3' hcc v3, sl_upQ r6 e4 e4' hcc v4, fun i hi => ?_, fun i hi hci => r8 i hi (by omega)⟩
  have h2 := r7 i hi
  rw [e2', sf_uu]
  by_cases hic : i = cm.toNat
  · rw [if_pos hic]
    have h3 := r8 i hi (by omega)
    omega
  · rw [if_neg hic]
    exact h2
theorem sl_RLw {cn cm cn1 cm1 : Int} {g u o h b g' u' o' h' b' : Nat → Int32} {n : Nat} {sg su sh sb sg' su' sh' sb' : Nat → Int32} (R : sl_RL cn cm g u o h b g' u' o' h' b') (h0 : 0 ≤ cm) (hc : cn1 = cn + n) (hc' : cm1 = cm + n) (v1 : ∀ k, k < n → sg k = sg' k) (v2 : ∀ k, k < n → su k = su' k) (v3 : ∀ k, k < n → sh k = sh' k) (v4 : ∀ k, k < n → sb k = sb' k) (hy : ∀ k, k < n → 0 ≤ (su' k).toInt ∧ (su' k).toInt ≤ 1000) : sl_RL cn1 cm1 (sl_W g (sl_ix cn) sg n) (sl_W u (sl_ix cn) su n) o (sl_W h (sl_ix cn) sh n) (sl_W b (sl_ix cn) sb n) (sl_W g' (sl_ix cm) sg' n) (sl_W u' (sl_ix cm) su' n) o' (sl_W h' (sl_ix cm) sh' n) (sl_W b' (sl_ix cm) sb' n) := by
  obtain ⟨r1, r2, r3, r4, r5, r6, r7, r8⟩ := R
  subst r1
  refine ⟨by omega, sl_Wc r2 n (fun k hk => ⟨rfl, v1 k hk⟩), sl_Wc r3 n (fun k hk => ⟨rfl, v2 k hk⟩), r4, sl_Wc r5 n (fun k hk => ⟨rfl, v3 k hk⟩), sl_Wc r6 n (fun k hk => ⟨rfl, v4 k hk⟩), fun i hi => ?_, fun i hi hci => r8 i hi (by omega)⟩
  have h2 := r7 i hi
  rcases sl_Wv (f := u') (ix := sl_ix cn) (sr := su') i n with ⟨a1, _⟩ | ⟨k, hk, a1, a2⟩
  · rw [a1]
    exact h2
  · rw [a2]
    have h3 := hy k hk
    have h4 := r8 i hi (by unfold sl_ix at a1; omega)
    omega
theorem sl_RLu {cn cm : Int} {g u o h b g' u' o' h' b' : Nat → Int32} {n : Nat} {ix iy : Nat → Nat} {su su' : Nat → Int32} (R : sl_RL cn cm g u o h b g' u' o' h' b') (hi : ∀ k, k < n → ix k = iy k) (v2 : ∀ k, k < n → su k = su' k) (hy : ∀ k, k < n → 0 ≤ (su' k).toInt ∧ (su' k).toInt ≤ 1000) (hz : ∀ k, k < n → (o' (iy k)).toInt = 0) : sl_RL cn cm g (sl_W u ix su n) o h b g' (sl_W u' iy su' n) o' h' b' := by
  obtain ⟨r1, r2, r3, r4, r5, r6, r7, r8⟩ := R
  refine ⟨r1, r2, sl_Wc r3 n (fun k hk => ⟨hi k hk, v2 k hk⟩), r4, r5, r6, fun i hi9 => ?_, r8⟩
  have h2 := r7 i hi9
  rcases sl_Wv (f := u') (ix := iy) (sr := su') i n with ⟨a1, _⟩ | ⟨k, hk, a1, a2⟩
  · rw [a1]
    exact h2
  · rw [a2]
    have h3 := hy k hk
    have h4 := hz k hk
    rw [a1] at h4
    omega
/-! first lots -/
def sl_RF (ac ln fl ll : Nat → Int32) : Prop := ∀ d : Nat, d < 12 → (ac d).toInt = 1 → ∀ k : Nat, (k : Int) < (ln d).toInt → (fl d).toInt + (k : Int) = (ll (4 * d + k)).toInt
def sl_nk (c : Int) (k : Nat) : Int32 := Int32.ofInt (c + (k : Int))
theorem sl_nke {v : Int32} {c : Int} {k : Nat} (h : v.toInt = c + (k : Int)) : v = sl_nk c k := by
  unfold sl_nk
  rw [← h, Int32.ofInt_toInt]
theorem sl_nkv {c : Int} {k : Nat} (h0 : 0 ≤ c) (h : c + (k : Int) ≤ 100) : (sl_nk c k).toInt = c + (k : Int) := by
  unfold sl_nk
  rw [Int32.toInt_ofInt_of_le (by omega) (by omega)]
theorem sl_RFl {ac ln ln' fl ll : Nat → Int32} {d : Nat} {v : Int32} (h : sl_RF ac ln fl ll) (hl : ln' = upd ln d v) (ha : (ac d).toInt ≠ 1) : sl_RF ac ln' fl ll := by
  intro x hx hax k hk
  by_cases hxd : x = d
  · subst hxd
    exact absurd hax ha
  · rw [hl, sf_uu, if_neg hxd] at hk
    exact h x hx hax k hk
theorem sl_RFa {ac ac' ln fl fl' ll : Nat → Int32} {d n : Nat} {v z : Int32} {c : Int} (h : sl_RF ac ln fl ll) (hd : d < 12) (hl4 : ∀ x, x < 12 → (ln x).toInt ≤ 4) (hn : (n : Int) = (ln d).toInt) (ha : ac' = upd ac d v) (hf : fl' = upd fl d z) (hz : z.toInt = c) (h0 : 0 ≤ c) (hc : c + (n : Int) ≤ 40) : sl_RF ac' ln fl' (sl_W ll (sl_ix (4 * (d : Int))) (sl_nk c) n) := by
  intro x hx hax k hk
  have h4 := hl4 x hx
  have h4d := hl4 d hd
  rcases sl_Wv (f := ll) (ix := sl_ix (4 * (d : Int))) (sr := sl_nk c) (4 * x + k) n with ⟨a1, a2⟩ | ⟨j, hj, a1, a2⟩
  · by_cases hxd : x = d
    · subst hxd
      exact absurd (by unfold sl_ix; omega) (a2 k (by omega))
    · rw [ha, sf_uu, if_neg hxd] at hax
      rw [hf, sf_uu, if_neg hxd, a1]
      exact h x hx hax k hk
  · unfold sl_ix at a1
    have hxd : x = d := by omega
    subst hxd
    rw [a2, hf, sf_uu, if_pos rfl, sl_nkv h0 (by omega)]
    omega
/-! codes -/
def sl_ca (r : Int) (D E LA CA X : Prop) : Prop := (r = 1 ∧ ¬ D) ∨ (r = 2 ∧ D ∧ (E ∨ LA)) ∨ (r = 3 ∧ D ∧ ¬ E ∧ ¬ LA ∧ ¬ CA) ∨ (r = 4 ∧ D ∧ ¬ E ∧ ¬ LA ∧ CA ∧ X) ∨ (r = 0 ∧ D ∧ ¬ E ∧ ¬ LA ∧ CA ∧ ¬ X)
theorem sl_caE {r c : Int} {D E LA CA X D' E' LA' CA' X' : Prop} (h : sl_ca r D E LA CA X) (h' : sl_ca c D' E' LA' CA' X') (d : D ↔ D') (e : D → (E ↔ E')) (l : D → (LA ↔ LA')) (a : D → (CA ↔ CA')) (x : D → (X ↔ X')) : r = c := by
  unfold sl_ca at h h'
  by_cases hD : D
  · rw [← d, ← e hD, ← l hD, ← a hD, ← x hD] at h'
    by_cases hE : E <;> by_cases hL : LA <;> by_cases hA : CA <;> by_cases hX : X <;> simp [hD, hE, hL, hA, hX] at h h' <;> omega
  · rw [← d] at h'
    simp [hD] at h h'
    omega
def sl_cm (r : Int) (D Wh CA : Prop) : Prop := (r = 1 ∧ ¬ D) ∨ (r = 2 ∧ D ∧ ¬ Wh) ∨ (r = 3 ∧ D ∧ Wh ∧ ¬ CA) ∨ (r = 0 ∧ D ∧ Wh ∧ CA)
theorem sl_cmE {r c : Int} {D Wh CA D' Wh' CA' : Prop} (h : sl_cm r D Wh CA) (h' : sl_cm c D' Wh' CA') (d : D ↔ D') (e : D → (Wh ↔ Wh')) (a : D → (CA ↔ CA')) : r = c := by
  unfold sl_cm at h h'
  by_cases hD : D
  · rw [← d, ← e hD, ← a hD] at h'
    by_cases hE : Wh <;> by_cases hA : CA <;> simp [hD, hE, hA] at h h' <;> omega
  · rw [← d] at h'
    simp [hD] at h h'
    omega
/-- both sides find rates alike -/
theorem sc_rE {B B' : Int → Int} {p p' f3 rH rL rF rT rH' rL' rF' rT' gd ld gd' ld' : Nat → Int32} {n nR nR' dy dy' : Int} {b k : Nat} (hJ : sf_J f3 p' n) (he : sf_Q n p p') (h1 : sf_Q nR' rH rH') (h2 : sf_Q nR' rL rL') (h3 : sf_Q nR' rF rF') (h4 : sf_Q nR' rT rT') (hR : nR = nR') (hB : B (gd (b + k)).toInt = B' (gd' (b + k)).toInt) (hBr : B' (gd' (b + k)).toInt < n) (hl : ld (b + k) = ld' (b + k)) (hdy : dy = dy') : sc_rc B p rH rL rF rT nR gd ld dy b k = sc_rm B' p' rH' rL' rF' rT' nR' gd' ld' dy' b k := by
  unfold sc_rc sc_rm
  rw [hB, hl, hdy]
  split
  · rfl
  · refine sr_upE hJ he (fun i _ => sr_gE h1 h2 h3 h4 _ _ hR i) 6 6 _ _ hBr (fun h9 => ?_) (Nat.le_refl _) (by omega)
    have h8 := (hJ (B' (gd' (b + k)).toInt).toNat (by omega)).2.2.2.1
    omega
theorem sc_r1 {B : Int → Int} {p rH rL rF rT gd ld : Nat → Int32} {nR dy b9 : Int} {b k : Nat} (hb : b9 = B (gd (b + k)).toInt) (h : b9 < 0) : sc_rc B p rH rL rF rT nR gd ld dy b k = -1 := by
  unfold sc_rc
  rw [← hb]
  exact if_pos h
theorem sc_r2 {B : Int → Int} {p rH rL rF rT gd ld : Nat → Int32} {nR dy b9 l v : Int} {b k : Nat} (hb : b9 = B (gd (b + k)).toInt) (h : 0 ≤ b9) (hl : l = (ld (b + k)).toInt) (hu : v = sr_up p (sr_G rH rL rF rT l dy nR.toNat) 6 b9) : sc_rc B p rH rL rF rT nR gd ld dy b k = v := by
  unfold sc_rc
  rw [← hb, if_neg (by omega), ← hl, hu]
theorem sc_m1 {B : Int → Int} {p rH rL rF rT gd ld : Nat → Int32} {nR dy b9 : Int} {b k : Nat} (hb : b9 = B (gd (b + k)).toInt) (h : b9 < 0) : sc_rm B p rH rL rF rT nR gd ld dy b k = -1 := by
  unfold sc_rm
  rw [← hb]
  exact if_pos h
theorem sc_m2 {B : Int → Int} {p rH rL rF rT gd ld : Nat → Int32} {nR dy b9 l v : Int} {b k : Nat} (hb : b9 = B (gd (b + k)).toInt) (h : 0 ≤ b9) (hl : l = (ld (b + k)).toInt) (hu : v = sr_up p (sr_G rH rL rF rT l dy nR.toNat) (b9 + 1).toNat b9) : sc_rm B p rH rL rF rT nR gd ld dy b k = v := by
  unfold sc_rm
  rw [← hb, if_neg (by omega), ← hl, hu]
theorem sc_okS {rr : Nat → Int} {c c' : Int} {n : Nat} (h : ∀ k : Nat, (k : Int) < c → 0 ≤ rr k) (hc : c = (n : Int)) (hc' : c' = c + 1) (hr : 0 ≤ rr n) : ∀ k : Nat, (k : Int) < c' → 0 ≤ rr k := by
  intro k hk
  by_cases hkn : k = n
  · subst hkn
    exact hr
  · exact h k (by omega)
/-- the best is a heading -/
theorem sc_br {p Hd K F A f3 : Nat → Int32} {am : Nat → Nat → Int} {nN nH g : Int} (h : 0 ≤ nH) : -1 ≤ sc_b p Hd K F A f3 am nN nH g ∧ sc_b p Hd K F A f3 am nN nH g < nH := by
  have h1 := sj_Br (sp_fi p Hd K F A (am g.toNat) nN.toNat) (sp_d f3) (sp_sh p Hd K F (am g.toNat) nN.toNat) nH.toNat
  unfold sc_b
  omega
theorem sc_bE {p Hd K F A p' Hd' K' F' A' f3 : Nat → Int32} {am am' : Nat → Nat → Int} {n m n' m' g g' : Int} (hJ : sf_J f3 p' n) (he : sf_Q n p p') (h1 : sf_Q m Hd Hd') (h2 : sf_Q m K K') (h3 : sf_Q m F F') (h4 : sf_Q m A A') (hF : ∀ i : Nat, (i : Int) < m → 0 ≤ (F' i).toInt ∧ (F' i).toInt ≤ 7) (ha : ∀ j : Nat, j < 8 → am g.toNat j = am' g.toNat j) (hn : n' = n) (hm : m' = m) (hg : g = g') : sc_b p Hd K F A f3 am m' n' g = sc_b p' Hd' K' F' A' f3 am' m n g' := by
  subst hg
  exact sp_BE hJ he h1 h2 h3 h4 hF ha hn hm
theorem sc_fS {rr : Nat → Int} {P : Prop} {c c' al al' : Int} {n : Nat} (h0 : al = 1 ↔ (P ∧ ∀ j : Nat, (j : Int) < c → 0 ≤ rr j)) (hc : c = (n : Int)) (hc' : c' = c + 1) (hal : (al ≠ 1 ∧ al' = 0) ∨ (al = 1 ∧ al' = 1 ∧ 0 ≤ rr n) ∨ (al' = 0 ∧ rr n < 0)) : al' = 1 ↔ (P ∧ ∀ j : Nat, (j : Int) < c' → 0 ≤ rr j) := by
  rcases hal with ⟨h1, h2⟩ | ⟨h1, h2, h3⟩ | ⟨h1, h2⟩
  · constructor
    · intro h9
      omega
    · rintro ⟨p1, p2⟩
      exact absurd (h0.mpr ⟨p1, fun j hj => p2 j (by omega)⟩) h1
  · obtain ⟨p1, p2⟩ := h0.mp h1
    exact ⟨fun _ => ⟨p1, sc_okS p2 hc hc' h3⟩, fun _ => h2⟩
  · constructor
    · intro h9
      omega
    · rintro ⟨p1, p2⟩
      have h9 := p2 n (by omega)
      omega
theorem sl_wS {q : Nat → Int} {P : Prop} {c c' al al' : Int} {n : Nat} (h0 : al = 1 ↔ (P ∧ ∀ j : Nat, (j : Int) < c → q j = 0)) (hc : c = (n : Int)) (hc' : c' = c + 1) (hal : (al ≠ 1 ∧ al' = 0) ∨ (al = 1 ∧ al' = 1 ∧ q n = 0) ∨ (al' = 0 ∧ q n ≠ 0)) : al' = 1 ↔ (P ∧ ∀ j : Nat, (j : Int) < c' → q j = 0) := by
  rcases hal with ⟨h1, h2⟩ | ⟨h1, h2, h3⟩ | ⟨h1, h2⟩
  · constructor
    · intro h9
      omega
    · rintro ⟨p1, p2⟩
      exact absurd (h0.mpr ⟨p1, fun j hj => p2 j (by omega)⟩) h1
  · obtain ⟨p1, p2⟩ := h0.mp h1
    refine ⟨fun _ => ⟨p1, fun j hj => ?_⟩, fun _ => h2⟩
    by_cases hjn : j = n
    · subst hjn
      exact h3
    · exact p2 j (by omega)
  · constructor
    · intro h9
      omega
    · rintro ⟨p1, p2⟩
      exact absurd (p2 n (by omega)) h2
def sl_UL (f f' : Nat → Int32) (d r : Int) : Prop := (r ≠ 0 ∧ f' = f) ∨ (r = 0 ∧ ∃ v : Int32, v.toInt = (f d.toNat).toInt + 1 ∧ f' = upd f d.toNat v)
def sl_U3 (f f' : Nat → Int32) (a c : Int) (v : Int32) : Prop := (c ≠ 0 ∧ f' = f) ∨ (c = 0 ∧ ∀ r : Nat, f' (3 * r) = if r = a.toNat then v else f (3 * r))
theorem sl_U3s {f f1 f2 f3 : Nat → Int32} {a : Nat} {u k p : Int32} (h1 : f1 = upd f (3 * a + 0) u) (h2 : f2 = upd f1 (3 * a + 1) k) (h3 : f3 = upd f2 (3 * a + 2) p) (r : Nat) : f3 (3 * r) = if r = a then u else f (3 * r) := by
  rw [h3, sf_uu, if_neg (by omega), h2, sf_uu, if_neg (by omega), h1, sf_uu]
  by_cases h : r = a
  · rw [if_pos (by omega), if_pos h]
  · rw [if_neg (by omega), if_neg h]
def sl_UD (f f' : Nat → Int32) (a r fd : Int) (v : Int32) : Prop := ((r ≠ 0 ∨ fd ≠ 0) ∧ f' = f) ∨ (r = 0 ∧ fd = 0 ∧ f' = upd f a.toNat v)
def sl_UM (f f' : Nat → Int32) (a fd : Int) (v : Int32) : Prop := ∀ r : Nat, f' (3 * r) = if fd = 0 ∧ r = a.toNat then v else f (3 * r)
theorem sl_UMs {f f' : Nat → Int32} {a fd : Int} {v : Int32} {i : Nat} (h : f' = upd f i v) (hi : (i : Int) = 3 * a + fd) (hb : 0 ≤ a ∧ 0 ≤ fd ∧ fd ≤ 2) : sl_UM f f' a fd v := by
  intro r
  rw [h, sf_uu]
  by_cases hc : fd = 0 ∧ r = a.toNat
  · rw [if_pos (by omega), if_pos hc]
  · rw [if_neg (by omega), if_neg hc]
/-! Declarations of both sides. -/
def sl_Q3 (f g : Nat → Int32) : Prop := ∀ r : Nat, r < 48 → f r = g (3 * r)
def sl_RD (dl ml da ma dg mg dd md dh mh du mf : Nat → Int32) : Prop := sf_Q 12 dl ml ∧ sf_Q 12 da ma ∧ sf_Q 48 dg mg ∧ sf_Q 48 dd md ∧ sf_Q 48 dh mh ∧ sl_Q3 du mf
def sl_RU (ac : Nat → Int32) (n : Int) : Prop := ∀ o : Nat, n ≤ (o : Int) → o < 12 → (ac o).toInt ≠ 1
theorem sl_RTd {dy mi ac dy' mi' : Nat → Int32} {n n' la c : Int} {v1 v2 : Int32} (hT : sl_RT dy mi ac n la) (hU : sl_RU ac n) (h0 : 0 ≤ n) (h1 : sf_U dy dy' n c v1) (h2 : sf_U mi mi' n c v2) (hn : (c = 0 ∧ n' = n + 1) ∨ (c ≠ 0 ∧ n' = n)) (h12 : n' ≤ 12) : sl_RT dy' mi' ac n' la ∧ sl_RU ac n' := by
  refine ⟨?_, fun o h3 h4 => hU o (by omega) h4⟩
  have e : ∀ o : Nat, (o : Int) < n → dy' o = dy o ∧ mi' o = mi o := by
    intro o ho
    constructor
    · rcases h1 with ⟨_, h⟩ | ⟨_, h⟩
      · rw [h]
      · rw [h, sf_uu, if_neg (by omega)]
    · rcases h2 with ⟨_, h⟩ | ⟨_, h⟩
      · rw [h]
      · rw [h, sf_uu, if_neg (by omega)]
  have nz : ∀ o : Nat, (o : Int) < n' → (ac o).toInt = 1 → (o : Int) < n := by
    intro o ho h9
    by_cases hon : (o : Int) < n
    · exact hon
    · exact absurd h9 (hU o (by omega) (by omega))
  rcases hT with ⟨t1, t2⟩ | ⟨t1, t2, t3, t4⟩
  · exact Or.inl ⟨t1, fun o ho h9 => t2 o (nz o ho h9) h9⟩
  · refine Or.inr ⟨t1, by omega, t3, fun o ho h9 => ?_⟩
    have h8 := nz o ho h9
    have h7 := t4 o h8 h9
    obtain ⟨a1, a2⟩ := e o h8
    obtain ⟨b1, b2⟩ := e la.toNat (by omega)
    unfold sl_lt at h7 ⊢
    rw [a1, a2, b1, b2]
    exact h7
theorem sl_QU {m a b r c : Int} {f f' g g' : Nat → Int32} {v v' : Int32} (h : sf_Q m f g) (F : sf_U f f' a r v) (G : sf_U g g' b c v') (hab : r = 0 → a = b) (hrc : r = c) (hv : v.toInt = v'.toInt) : sf_Q m f' g' := by
  subst hrc
  rcases F with ⟨a1, a2⟩ | ⟨a1, a2⟩ <;> rcases G with ⟨b1, b2⟩ | ⟨b1, b2⟩
  · rw [a2, b2]; exact h
  · exact absurd b1 a1
  · exact absurd a1 b1
  · exact sl_upQ h a2 b2 (by rw [hab a1]) hv
theorem sl_QUL {m a b r c : Int} {f f' g g' : Nat → Int32} (h : sf_Q m f g) (F : sl_UL f f' a r) (G : sl_UL g g' b c) (hab : a = b) (hrc : r = c) (ha : r = 0 → 0 ≤ a ∧ a < m) : sf_Q m f' g' := by
  subst hab hrc
  rcases F with ⟨a1, a2⟩ | ⟨a1, v, a2, a3⟩ <;> rcases G with ⟨b1, b2⟩ | ⟨b1, v', b2, b3⟩
  · rw [a2, b2]; exact h
  · exact absurd b1 a1
  · exact absurd a1 b1
  · have h9 := ha a1
    exact sl_upQ h a3 b3 rfl (by rw [a2, b2, h _ (by omega)])
theorem sl_Q3U {a b r c : Int} {f f' g g' : Nat → Int32} {v v' : Int32} (h : sl_Q3 f g) (F : sf_U f f' a r v) (G : sl_U3 g g' b c v') (hab : r = 0 → a = b) (hrc : r = c) (hv : v.toInt = v'.toInt) : sl_Q3 f' g' := by
  subst hrc
  rcases F with ⟨a1, a2⟩ | ⟨a1, a2⟩ <;> rcases G with ⟨b1, b2⟩ | ⟨b1, b2⟩
  · rw [a2, b2]; exact h
  · exact absurd b1 a1
  · exact absurd a1 b1
  · intro i hi
    rw [b2, a2, sf_uu, Int32.toInt_inj.mp hv, h i hi, hab a1]
theorem sl_Q3D {a b r c fd fd' : Int} {f f' g g' : Nat → Int32} {v v' : Int32} (h : sl_Q3 f g) (F : sl_UD f f' a r fd v) (G : (c ≠ 0 ∧ g' = g) ∨ (c = 0 ∧ sl_UM g g' b fd' v')) (hab : a = b) (hrc : r = c) (hf : fd = fd') (hv : v.toInt = v'.toInt) : sl_Q3 f' g' := by
  subst hab hrc hf
  intro i hi
  have h9 := h i hi
  rcases G with ⟨b1, b2⟩ | ⟨b1, b2⟩
  · rcases F with ⟨_, a2⟩ | ⟨a1, _, _⟩
    · rw [a2, b2]; exact h9
    · exact absurd a1 b1
  · rw [b2 i]
    rcases F with ⟨a1, a2⟩ | ⟨_, a2, a3⟩
    · rw [a2, if_neg (by omega)]; exact h9
    · rw [a3, sf_uu]
      by_cases hc : i = a.toNat
      · rw [if_pos hc, if_pos ⟨a2, hc⟩, Int32.toInt_inj.mp hv]
      · rw [if_neg hc, if_neg (by omega)]; exact h9
theorem sl_RFU {ac ln ln' fl ll : Nat → Int32} {d r : Int} (h : sl_RF ac ln fl ll) (F : sl_UL ln ln' d r) (ha : r = 0 → (ac d.toNat).toInt ≠ 1) : sl_RF ac ln' fl ll := by
  rcases F with ⟨a1, a2⟩ | ⟨a1, v, a2, a3⟩
  · rw [a2]; exact h
  · exact sl_RFl h a3 (ha a1)
theorem sl_SE {cn cm x y x' y' : Int} {g u o h b g' u' o' h' b' : Nat → Int32} (R : sl_RL cn cm g u o h b g' u' o' h' b') (h40 : cm ≤ 40) (hx : x = x') (hy : y = y') : sl_S (sl_mt g h x y) (sl_v u o) cn.toNat = sl_S (sl_mt g' h' x' y') (sl_v u' o') cm.toNat := by
  obtain ⟨r1, r2, r3, r4, r5, r6, r7, r8⟩ := R
  subst r1 hx hy
  refine sl_Sc _ fun i hi => ?_
  unfold sl_mt sl_v
  rw [r2 i (by omega), r3 i (by omega), r4 i (by omega), r5 i (by omega)]
  exact ⟨rfl, rfl⟩
theorem sl_CE {cn cm x y x' y' : Int} {g u o h b g' u' o' h' b' : Nat → Int32} (R : sl_RL cn cm g u o h b g' u' o' h' b') (h40 : cm ≤ 40) (hx : x = x') (hy : y = y') : sl_S (sl_mc g h b x y) (sl_u u) cn.toNat = sl_S (sl_mc g' h' b' x' y') (sl_u u') cm.toNat := by
  obtain ⟨r1, r2, r3, r4, r5, r6, r7, r8⟩ := R
  subst r1 hx hy
  refine sl_Sc _ fun i hi => ?_
  unfold sl_mc sl_u
  rw [r2 i (by omega), r3 i (by omega), r5 i (by omega), r6 i (by omega)]
  exact ⟨rfl, rfl⟩
theorem sl_RLT {cn cm r c gg hh gg' w w' : Int} {g u o h b g' u' o' h' b' o1 o1' : Nat → Int32} (R : sl_RL cn cm g u o h b g' u' o' h' b') (F : (r ≠ 0 ∧ o1 = o) ∨ (r = 0 ∧ sl_T o o1 (sl_mt g h gg hh) (sl_v u o) w cn.toNat)) (G : (c ≠ 0 ∧ o1' = o') ∨ (c = 0 ∧ sl_T o' o1' (sl_mt g' h' gg' hh) (sl_v u' o') w' cm.toNat)) (hrc : r = c) (hg : gg = gg') (hww : w = w') (hw : r = 0 → 0 ≤ w) : sl_RL cn cm g u o1 h b g' u' o1' h' b' := by
  subst hrc hg hww
  rcases F with ⟨a1, a2⟩ | ⟨a1, a2⟩ <;> rcases G with ⟨b1, b2⟩ | ⟨b1, b2⟩
  · rw [a2, b2]; exact R
  · exact absurd b1 a1
  · exact absurd a1 b1
  · exact sl_RLt R (hw a1) a2 b2
theorem sl_QV {m d d' r c : Int} {f f' g g' : Nat → Int32} {x y : Int32} (h : sf_Q m f g) (F : (r ≠ 0 ∧ f' = f) ∨ (r = 0 ∧ f' = upd f d.toNat (f d.toNat + x))) (G : (c ≠ 0 ∧ g' = g) ∨ (c = 0 ∧ g' = upd g d'.toNat (g d'.toNat + y))) (hrc : r = c) (hd : d = d') (hxy : x = y) (hb : r = 0 → 0 ≤ d ∧ d < m) : sf_Q m f' g' := by
  subst hrc hd hxy
  rcases F with ⟨a1, a2⟩ | ⟨a1, a2⟩ <;> rcases G with ⟨b1, b2⟩ | ⟨b1, b2⟩
  · rw [a2, b2]; exact h
  · exact absurd b1 a1
  · exact absurd a1 b1
  · have h9 := hb a1
    exact sl_upQ h a2 b2 rfl (by rw [h _ (by omega)])
def sl_AF (r : Int) (cn cn1 : Int32) (g g1 u u1 h h1 b b1 : Nat → Int32) (x y : Int) : Prop := (r ≠ 0 ∧ cn1 = cn ∧ g1 = g ∧ u1 = u ∧ h1 = h ∧ b1 = b) ∨ (r = 0 ∧ cn1.toInt = cn.toInt + 1 ∧ (∃ z : Int32, z.toInt = x ∧ g1 = upd g cn.toInt.toNat z) ∧ (∃ z : Int32, z.toInt = y ∧ u1 = upd u cn.toInt.toNat z) ∧ (∃ z : Int32, z.toInt = 1 ∧ h1 = upd h cn.toInt.toNat z) ∧ (∃ z : Int32, z.toInt = 1 ∧ b1 = upd b cn.toInt.toNat z))
theorem sl_WRK {r c : Int} {cn cm cn1 cm1 : Int32} {x y x' y' : Int} {g u o h b g' u' o' h' b' g1 u1 h1 b1 g1' u1' h1' b1' : Nat → Int32} (R : sl_RL cn.toInt cm.toInt g u o h b g' u' o' h' b') (h0 : 0 ≤ cm.toInt)
    (F : (r ≠ 0 ∧ cn1 = cn ∧ g1 = g ∧ u1 = u ∧ h1 = h ∧ b1 = b) ∨ (r = 0 ∧ cn1.toInt = cn.toInt + 1 ∧ (∃ z : Int32, z.toInt = x ∧ g1 = upd g cn.toInt.toNat z) ∧ (∃ z : Int32, z.toInt = y ∧ u1 = upd u cn.toInt.toNat z) ∧ (∃ z : Int32, z.toInt = 1 ∧ h1 = upd h cn.toInt.toNat z) ∧ (∃ z : Int32, z.toInt = 1 ∧ b1 = upd b cn.toInt.toNat z)))
    (G : (c ≠ 0 ∧ cm1 = cm ∧ g1' = g' ∧ u1' = u' ∧ h1' = h' ∧ b1' = b') ∨ (c = 0 ∧ cm1.toInt = cm.toInt + 1 ∧ (∃ z : Int32, z.toInt = x' ∧ g1' = upd g' cm.toInt.toNat z) ∧ (∃ z : Int32, z.toInt = y' ∧ u1' = upd u' cm.toInt.toNat z) ∧ (∃ z : Int32, z.toInt = 1 ∧ h1' = upd h' cm.toInt.toNat z) ∧ (∃ z : Int32, z.toInt = 1 ∧ b1' = upd b' cm.toInt.toNat z)))
    (hrc : r = c) (hx : x = x') (hy : y = y') (hyb : c = 0 → 0 ≤ y' ∧ y' ≤ 1000) : sl_RL cn1.toInt cm1.toInt g1 u1 o h1 b1 g1' u1' o' h1' b1' := by
  subst hrc hx hy
  rcases F with ⟨a1, a2, a3, a4, a5, a6⟩ | ⟨a1, a2, ⟨z1, p1, q1⟩, ⟨z2, p2, q2⟩, ⟨z3, p3, q3⟩, ⟨z4, p4, q4⟩⟩ <;> rcases G with ⟨c1, c2, c3, c4, c5, c6⟩ | ⟨c1, c2, ⟨y1, s1, t1⟩, ⟨y2, s2, t2⟩, ⟨y3, s3, t3⟩, ⟨y4, s4, t4⟩⟩
  · rw [a2, a3, a4, a5, a6, c2, c3, c4, c5, c6]; exact R
  · exact absurd c1 a1
  · exact absurd a1 c1
  · have h9 := hyb c1
    exact sl_RLa R h0 a2 c2 q1 q2 q3 q4 t1 t2 t3 t4 (by omega) (by omega) (by omega) (by omega) (by omega)
theorem sl_cm0 {c : Int} {D Wh CA : Prop} (h : sl_cm c D Wh CA) (h0 : c = 0) : D ∧ Wh ∧ CA := by
  rcases h with ⟨h, _⟩ | ⟨h, _⟩ | ⟨h, _⟩ | ⟨_, h⟩
  · omega
  · omega
  · omega
  · exact h
theorem sl_ca0 {c : Int} {D E LA CA X : Prop} (h : sl_ca c D E LA CA X) (h0 : c = 0) : D ∧ ¬ E ∧ ¬ LA ∧ CA ∧ ¬ X := by
  rcases h with ⟨h, _⟩ | ⟨h, _⟩ | ⟨h, _⟩ | ⟨h, _⟩ | ⟨_, h⟩
  · omega
  · omega
  · omega
  · omega
  · exact h
theorem sl_ACC {r c : Int} {cn cm cn1 cm1 la la1 : Int32} {d : Nat} {N : Int} {g u o h b g' u' o' h' b' g1 u1 h1 b1 g1' u1' h1' b1' dl ml da ma da1 ma1 dg mg dd md dh mh du mf df df1 ll ll1 dy mi : Nat → Int32} (RL : sl_RL cn.toInt cm.toInt g u o h b g' u' o' h' b') (RD : sl_RD dl ml da ma dg mg dd md dh mh du mf) (RF : sl_RF da dl df ll) (RT : sl_RT dy mi ma N la.toInt) (RU : sl_RU ma N) (h0 : 0 ≤ cm.toInt) (hl4 : ∀ x, x < 12 → 0 ≤ (dl x).toInt ∧ (dl x).toInt ≤ 4) (hu : ∀ i, i < 48 → 0 ≤ (du i).toInt ∧ (du i).toInt ≤ 1000) (hrc : r = c) (hok : c = 0 → ((d : Int) < N ∧ d < 12 ∧ ¬ sl_LT dy mi la.toInt d ∧ cm.toInt + (ml d).toInt ≤ 40))
    (F : (r ≠ 0 ∧ cn1 = cn ∧ g1 = g ∧ u1 = u ∧ h1 = h ∧ b1 = b ∧ df1 = df ∧ da1 = da) ∨ (r = 0 ∧ cn1.toInt = cn.toInt + (dl d).toInt ∧ g1 = sl_W g (sl_ix cn.toInt) (sl_sr dg (4 * (d : Int)).toNat) (dl d).toInt.toNat ∧ u1 = sl_W u (sl_ix cn.toInt) (sl_sr du (4 * (d : Int)).toNat) (dl d).toInt.toNat ∧ h1 = sl_W h (sl_ix cn.toInt) (sl_sr dh (4 * (d : Int)).toNat) (dl d).toInt.toNat ∧ b1 = sl_W b (sl_ix cn.toInt) (sl_kk 0) (dl d).toInt.toNat ∧ (∃ z : Int32, z.toInt = cn.toInt ∧ df1 = upd df d z) ∧ (∃ v : Int32, v.toInt = 1 ∧ da1 = upd da d v)))
    (G : (c ≠ 0 ∧ cm1 = cm ∧ g1' = g' ∧ u1' = u' ∧ h1' = h' ∧ b1' = b' ∧ ll1 = ll ∧ ma1 = ma ∧ la1 = la) ∨ (c = 0 ∧ cm1.toInt = cm.toInt + (ml d).toInt ∧ g1' = sl_W g' (sl_ix cm.toInt) (sl_sr mg (4 * (d : Int)).toNat) (ml d).toInt.toNat ∧ u1' = sl_W u' (sl_ix cm.toInt) (sl_s3 mf (4 * (d : Int)).toNat) (ml d).toInt.toNat ∧ h1' = sl_W h' (sl_ix cm.toInt) (sl_sr mh (4 * (d : Int)).toNat) (ml d).toInt.toNat ∧ b1' = sl_W b' (sl_ix cm.toInt) (sl_kk 0) (ml d).toInt.toNat ∧ ll1 = sl_W ll (sl_ix (4 * (d : Int))) (sl_nk cm.toInt) (ml d).toInt.toNat ∧ (∃ v : Int32, v.toInt = 1 ∧ ma1 = upd ma d v) ∧ la1.toInt = (d : Int))) :
    sl_RL cn1.toInt cm1.toInt g1 u1 o h1 b1 g1' u1' o' h1' b1' ∧ sl_RD dl ml da1 ma1 dg mg dd md dh mh du mf ∧ sl_RF da1 dl df1 ll1 ∧ sl_RT dy mi ma1 N la1.toInt ∧ sl_RU ma1 N := by
  subst hrc
  rcases F with ⟨a1, a2, a3, a4, a5, a6, a7, a8⟩ | ⟨a1, a2, a3, a4, a5, a6, ⟨z, a7, a8⟩, ⟨v, a9, a10⟩⟩ <;> rcases G with ⟨b1, b2, b3, b4, b5, b6, b7, b8, b9⟩ | ⟨b1, b2, b3, b4, b5, b6, b7, ⟨v', b8, b9⟩, b10⟩
  · rw [a2, a3, a4, a5, a6, a7, a8, b2, b3, b4, b5, b6, b7, b8, b9]
    exact ⟨RL, RD, RF, RT, RU⟩
  · exact absurd b1 a1
  · exact absurd a1 b1
  · obtain ⟨k1, k2, k3, k4⟩ := hok a1
    obtain ⟨d1, d2, d3, d4, d5, d6⟩ := RD
    have hd4 := hl4 d k2
    have hdm : dl d = ml d := d1 d (by omega)
    have hcc : cn.toInt = cm.toInt := RL.1
    rw [hdm] at hd4
    refine ⟨?_, ⟨d1, sl_upQ d2 a10 b9 rfl (by omega), d3, d4, d5, d6⟩, ?_, sl_RTa k1 RT k3 b9 b8 b10, ?_⟩
    · rw [a3, a4, a5, a6, b3, b4, b5, b6, hdm]
      refine sl_RLw RL h0 (by rw [a2, hdm]; omega) (by rw [b2]; omega) (fun k hk => ?_) (fun k hk => ?_) (fun k hk => ?_) (fun k hk => rfl) (fun k hk => ?_)
      · exact d3 _ (by omega)
      · exact d6 _ (by omega)
      · exact d5 _ (by omega)
      · have h9 := hu ((4 * (d : Int)).toNat + k) (by omega)
        rw [d6 _ (by omega)] at h9
        exact h9
    · rw [b7]
      exact sl_RFa RF k2 (fun x hx => (hl4 x hx).2) (by rw [hdm]; omega) a10 a8 (by omega) h0 (by omega)
    · intro x hx hx2
      rw [b9, sf_uu, if_neg (by omega)]
      exact RU x hx hx2
theorem sl_AMD {r c cn cm fd fd' a a' : Int} {d : Nat} {v v' : Int32} {g u o h b g' u' o' h' b' u1 u1' dl ml da ma dg mg dd md dh mh du mf du1 mf1 df ll : Nat → Int32} (RL : sl_RL cn cm g u o h b g' u' o' h' b') (RD : sl_RD dl ml da ma dg mg dd md dh mh du mf) (RF : sl_RF da dl df ll) (hl4 : ∀ x, x < 12 → 0 ≤ (dl x).toInt ∧ (dl x).toInt ≤ 4) (hu : ∀ i, i < 48 → 0 ≤ (du1 i).toInt ∧ (du1 i).toInt ≤ 1000) (hrc : r = c) (hok : c = 0 → (d < 12 ∧ (ma d).toInt = 1 ∧ ∀ j : Nat, (j : Int) < (ml d).toInt → (o' (sl_iy ll (4 * (d : Int)).toNat j)).toInt = 0))
    (F1 : sl_UD du du1 a r fd v) (G1 : (c ≠ 0 ∧ mf1 = mf) ∨ (c = 0 ∧ sl_UM mf mf1 a' fd' v')) (haa : a = a') (hff : fd = fd') (hvv : v.toInt = v'.toInt)
    (F2 : (r ≠ 0 ∧ u1 = u) ∨ (r = 0 ∧ u1 = sl_W u (sl_ix (df d).toInt) (sl_sr du1 (4 * (d : Int)).toNat) (dl d).toInt.toNat)) (G2 : (c ≠ 0 ∧ u1' = u') ∨ (c = 0 ∧ u1' = sl_W u' (sl_iy ll (4 * (d : Int)).toNat) (sl_s3 mf1 (4 * (d : Int)).toNat) (ml d).toInt.toNat)) :
    sl_RL cn cm g u1 o h b g' u1' o' h' b' ∧ sl_RD dl ml da ma dg mg dd md dh mh du1 mf1 := by
  obtain ⟨d1, d2, d3, d4, d5, d6⟩ := RD
  have q3 : sl_Q3 du1 mf1 := sl_Q3D d6 F1 G1 haa hrc hff hvv
  refine ⟨?_, ⟨d1, d2, d3, d4, d5, q3⟩⟩
  subst hrc
  rcases F2 with ⟨a1, a2⟩ | ⟨a1, a2⟩ <;> rcases G2 with ⟨b1, b2⟩ | ⟨b1, b2⟩
  · rw [a2, b2]; exact RL
  · exact absurd b1 a1
  · exact absurd a1 b1
  · obtain ⟨k1, k2, k3⟩ := hok a1
    have hd4 := hl4 d k1
    have hdm : dl d = ml d := d1 d (by omega)
    rw [a2, b2, hdm]
    rw [hdm] at hd4
    refine sl_RLu RL (fun k hk => ?_) (fun k hk => ?_) (fun k hk => ?_) (fun k hk => ?_)
    · have h9 := RF d k1 (by rw [d2 d (by omega)]; exact k2) k (by rw [hdm]; omega)
      unfold sl_ix sl_iy
      rw [h9, show (4 * (d : Int)).toNat + k = 4 * d + k by omega]
    · exact q3 _ (by omega)
    · have h9 := hu ((4 * (d : Int)).toNat + k) (by omega)
      rw [q3 _ (by omega)] at h9
      exact h9
    · exact k3 k (by omega)
theorem sl_ACCz {r c dz : Int} {cn cm cn1 cm1 la la1 : Int32} {N : Int} {g u o h b g' u' o' h' b' g1 u1 h1 b1 g1' u1' h1' b1' dl ml da ma da1 ma1 dg mg dd md dh mh du mf df df1 ll ll1 dy mi : Nat → Int32} (RL : sl_RL cn.toInt cm.toInt g u o h b g' u' o' h' b') (RD : sl_RD dl ml da ma dg mg dd md dh mh du mf) (RF : sl_RF da dl df ll) (RT : sl_RT dy mi ma N la.toInt) (RU : sl_RU ma N) (h0 : 0 ≤ cm.toInt) (hl4 : ∀ x, x < 12 → 0 ≤ (dl x).toInt ∧ (dl x).toInt ≤ 4) (hu : ∀ i, i < 48 → 0 ≤ (du i).toInt ∧ (du i).toInt ≤ 1000) (hrc : r = c) (hok : c = 0 → (0 ≤ dz ∧ dz < N ∧ dz < 12 ∧ ¬ sl_LT dy mi la.toInt dz.toNat ∧ cm.toInt + (ml dz.toNat).toInt ≤ 40))
    (F : (r ≠ 0 ∧ cn1 = cn ∧ g1 = g ∧ u1 = u ∧ h1 = h ∧ b1 = b ∧ df1 = df ∧ da1 = da) ∨ (r = 0 ∧ cn1.toInt = cn.toInt + (dl dz.toNat).toInt ∧ g1 = sl_W g (sl_ix cn.toInt) (sl_sr dg (4 * dz).toNat) (dl dz.toNat).toInt.toNat ∧ u1 = sl_W u (sl_ix cn.toInt) (sl_sr du (4 * dz).toNat) (dl dz.toNat).toInt.toNat ∧ h1 = sl_W h (sl_ix cn.toInt) (sl_sr dh (4 * dz).toNat) (dl dz.toNat).toInt.toNat ∧ b1 = sl_W b (sl_ix cn.toInt) (sl_kk 0) (dl dz.toNat).toInt.toNat ∧ (∃ z : Int32, z.toInt = cn.toInt ∧ df1 = upd df dz.toNat z) ∧ (∃ v : Int32, v.toInt = 1 ∧ da1 = upd da dz.toNat v)))
    (G : (c ≠ 0 ∧ cm1 = cm ∧ g1' = g' ∧ u1' = u' ∧ h1' = h' ∧ b1' = b' ∧ ll1 = ll ∧ ma1 = ma ∧ la1 = la) ∨ (c = 0 ∧ cm1.toInt = cm.toInt + (ml dz.toNat).toInt ∧ g1' = sl_W g' (sl_ix cm.toInt) (sl_sr mg (4 * dz).toNat) (ml dz.toNat).toInt.toNat ∧ u1' = sl_W u' (sl_ix cm.toInt) (sl_s3 mf (4 * dz).toNat) (ml dz.toNat).toInt.toNat ∧ h1' = sl_W h' (sl_ix cm.toInt) (sl_sr mh (4 * dz).toNat) (ml dz.toNat).toInt.toNat ∧ b1' = sl_W b' (sl_ix cm.toInt) (sl_kk 0) (ml dz.toNat).toInt.toNat ∧ ll1 = sl_W ll (sl_ix (4 * dz)) (sl_nk cm.toInt) (ml dz.toNat).toInt.toNat ∧ (∃ v : Int32, v.toInt = 1 ∧ ma1 = upd ma dz.toNat v) ∧ la1.toInt = dz)) :
    sl_RL cn1.toInt cm1.toInt g1 u1 o h1 b1 g1' u1' o' h1' b1' ∧ sl_RD dl ml da1 ma1 dg mg dd md dh mh du mf ∧ sl_RF da1 dl df1 ll1 ∧ sl_RT dy mi ma1 N la1.toInt ∧ sl_RU ma1 N := by
  by_cases hr : c = 0
  · obtain ⟨d, rfl⟩ : ∃ d : Nat, dz = (d : Int) := ⟨dz.toNat, by have h9 := hok hr; omega⟩
    rw [Int.toNat_natCast] at F G hok
    exact sl_ACC (d := d) RL RD RF RT RU h0 hl4 hu hrc (fun h9 => by obtain ⟨k1, k2, k3, k4, k5⟩ := hok h9; exact ⟨k2, by omega, k4, k5⟩) F G
  · rcases F with ⟨a1, a2, a3, a4, a5, a6, a7, a8⟩ | ⟨a1, _⟩
    · rcases G with ⟨b1, b2, b3, b4, b5, b6, b7, b8, b9⟩ | ⟨b1, _⟩
      · rw [a2, a3, a4, a5, a6, a7, a8, b2, b3, b4, b5, b6, b7, b8, b9]
        exact ⟨RL, RD, RF, RT, RU⟩
      · exact absurd b1 hr
    · exact absurd (hrc.symm.trans a1) hr
theorem sl_AMDz {r c cn cm fd fd' a a' dz : Int} {v v' : Int32} {g u o h b g' u' o' h' b' u1 u1' dl ml da ma dg mg dd md dh mh du mf du1 mf1 df ll : Nat → Int32} (RL : sl_RL cn cm g u o h b g' u' o' h' b') (RD : sl_RD dl ml da ma dg mg dd md dh mh du mf) (RF : sl_RF da dl df ll) (hl4 : ∀ x, x < 12 → 0 ≤ (dl x).toInt ∧ (dl x).toInt ≤ 4) (hu : ∀ i, i < 48 → 0 ≤ (du1 i).toInt ∧ (du1 i).toInt ≤ 1000) (hrc : r = c) (hok : c = 0 → (0 ≤ dz ∧ dz < 12 ∧ (ma dz.toNat).toInt = 1 ∧ ∀ j : Nat, (j : Int) < (ml dz.toNat).toInt → (o' (sl_iy ll (4 * dz).toNat j)).toInt = 0))
    (F1 : sl_UD du du1 a r fd v) (G1 : (c ≠ 0 ∧ mf1 = mf) ∨ (c = 0 ∧ sl_UM mf mf1 a' fd' v')) (haa : a = a') (hff : fd = fd') (hvv : v.toInt = v'.toInt)
    (F2 : (r ≠ 0 ∧ u1 = u) ∨ (r = 0 ∧ u1 = sl_W u (sl_ix (df dz.toNat).toInt) (sl_sr du1 (4 * dz).toNat) (dl dz.toNat).toInt.toNat)) (G2 : (c ≠ 0 ∧ u1' = u') ∨ (c = 0 ∧ u1' = sl_W u' (sl_iy ll (4 * dz).toNat) (sl_s3 mf1 (4 * dz).toNat) (ml dz.toNat).toInt.toNat)) :
    sl_RL cn cm g u1 o h b g' u1' o' h' b' ∧ sl_RD dl ml da ma dg mg dd md dh mh du1 mf1 := by
  by_cases hr : c = 0
  · obtain ⟨d, rfl⟩ : ∃ d : Nat, dz = (d : Int) := ⟨dz.toNat, by have h9 := hok hr; omega⟩
    rw [Int.toNat_natCast] at F2 G2 hok
    exact sl_AMD (d := d) RL RD RF hl4 hu hrc (fun h9 => by obtain ⟨k1, k2, k3, k4⟩ := hok h9; exact ⟨by omega, k3, k4⟩) F1 G1 haa hff hvv F2 G2
  · have hr2 : r ≠ 0 := fun z => hr (hrc.symm.trans z)
    obtain ⟨d1, d2, d3, d4, d5, d6⟩ := RD
    refine ⟨?_, ⟨d1, d2, d3, d4, d5, sl_Q3D d6 F1 G1 haa hrc hff hvv⟩⟩
    rcases F2 with ⟨_, a2⟩ | ⟨a1, _⟩
    · rcases G2 with ⟨_, b2⟩ | ⟨b1, _⟩
      · rw [a2, b2]; exact RL
      · exact absurd b1 hr
    · exact absurd a1 hr2
theorem sl_WhE {cn cm dz : Int} {g u o h b g' u' o' h' b' dl ml da ma dg mg dd md dh mh du mf df ll : Nat → Int32} (RL : sl_RL cn cm g u o h b g' u' o' h' b') (RD : sl_RD dl ml da ma dg mg dd md dh mh du mf) (RF : sl_RF da dl df ll) (hl4 : ∀ x, x < 12 → 0 ≤ (dl x).toInt ∧ (dl x).toInt ≤ 4) (hf : ∀ x, x < 12 → 0 ≤ (df x).toInt ∧ (df x).toInt ≤ 40) (hL : ∀ x, x < 48 → 0 ≤ (ll x).toInt ∧ (ll x).toInt ≤ 39) (h0 : 0 ≤ dz) (h12 : dz < 12) : ((da dz.toNat).toInt = 1 ∧ ∀ k : Nat, (k : Int) < (dl dz.toNat).toInt → (o (sl_ix (df dz.toNat).toInt k)).toInt ≤ 0) ↔ ((ma dz.toNat).toInt = 1 ∧ ∀ j : Nat, (j : Int) < (ml dz.toNat).toInt → (o' (sl_iy ll (4 * dz).toNat j)).toInt = 0) := by
  obtain ⟨r1, r2, r3, r4, r5, r6, r7, r8⟩ := RL
  have e1 : da dz.toNat = ma dz.toNat := RD.2.1 _ (by omega)
  have e2 : dl dz.toNat = ml dz.toNat := RD.1 _ (by omega)
  have b4 := hl4 dz.toNat (by omega)
  have key : (da dz.toNat).toInt = 1 → ∀ k : Nat, (k : Int) < (dl dz.toNat).toInt → ((o (sl_ix (df dz.toNat).toInt k)).toInt ≤ 0 ↔ (o' (sl_iy ll (4 * dz).toNat k)).toInt = 0) := by
    intro h1 k hk
    have h2 := RF dz.toNat (by omega) h1 k hk
    have h3 := hL (4 * dz.toNat + k) (by omega)
    have e : sl_ix (df dz.toNat).toInt k = sl_iy ll (4 * dz).toNat k := by
      unfold sl_ix sl_iy
      rw [h2, show (4 * dz).toNat + k = 4 * dz.toNat + k by omega]
    have hlt : sl_iy ll (4 * dz).toNat k < 40 := by
      unfold sl_iy
      rw [show (4 * dz).toNat + k = 4 * dz.toNat + k by omega]
      omega
    rw [e, r4 _ (by omega)]
    have h5 := r7 _ hlt
    omega
  constructor
  · rintro ⟨h1, h2⟩
    exact ⟨by rw [← e1]; exact h1, fun j hj => (key h1 j (by rw [e2]; exact hj)).mp (h2 j (by rw [e2]; exact hj))⟩
  · rintro ⟨h1, h2⟩
    have h1' : (da dz.toNat).toInt = 1 := by rw [e1]; exact h1
    exact ⟨h1', fun k hk => (key h1' k hk).mpr (h2 k (by rw [← e2]; exact hk))⟩
