/-! Bits of a number; what is inside. -/
def sb_t (s : Int32) (i : Nat) : Bool := s.toBitVec.getLsbD i
theorem sb_k : ∀ k : Fin 32, ((Int32.ofNat k.val &&& 31).toBitVec.smod 32).toNat = k.val ∧ (Int32.ofNat k.val).toInt = (k.val : Int) := by decide +kernel
theorem sb_n {n : Int32} (h0 : 0 ≤ n.toInt) (h1 : n.toInt ≤ 31) : ((n &&& 31).toBitVec.smod 32).toNat = n.toInt.toNat := by
  obtain ⟨h2, h3⟩ := sb_k ⟨n.toInt.toNat, by omega⟩
  have h4 : n = Int32.ofNat n.toInt.toNat := Int32.toInt_inj.mp (by
    have h5 : (Int32.ofNat n.toInt.toNat).toInt = ((n.toInt.toNat : Nat) : Int) := h3
    omega)
  have h6 : ((Int32.ofNat n.toInt.toNat &&& 31).toBitVec.smod 32).toNat = n.toInt.toNat := h2
  rw [← h4] at h6
  exact h6
theorem sb_1 {z : Int32} (h : z.toInt = 1) : z = 1 := Int32.toInt_inj.mp (by rw [h]; decide)
theorem sb_b1 (x : BitVec 32) : (x &&& 1#32).toInt = sp_i (x.getLsbD 0) := by
  rw [BitVec.and_one_eq_setWidth_ofBool_getLsbD]
  cases x.getLsbD 0 <;> decide
theorem sb_has {s n v1 v2 z : Int32} (e1 : v1 = s >>> (n &&& 31)) (e2 : v2 = v1 &&& z) (ez : z.toInt = 1) (h0 : 0 ≤ n.toInt) (h1 : n.toInt ≤ 31) : v2.toInt = sp_i (sb_t s n.toInt.toNat) := by
  rw [sb_1 ez] at e2
  subst e2 e1
  show ((s >>> (n &&& 31)) &&& 1).toBitVec.toInt = _
  rw [Int32.toBitVec_and, Int32.toBitVec_shiftRight, show (1 : Int32).toBitVec = 1#32 from rfl, sb_b1]
  unfold sb_t
  rw [BitVec.sshiftRight', BitVec.getLsbD_sshiftRight, sb_n h0 h1, if_pos (by omega)]
  simp
theorem sb_or {x y z : Int32} (e : z = x ||| y) (i : Nat) : sb_t z i = (sb_t x i || sb_t y i) := by
  subst e
  unfold sb_t
  rw [Int32.toBitVec_or, BitVec.getLsbD_or]
theorem sb_sh {n z y : Int32} (ey : y.toInt = 1) (e : z = y <<< (n &&& 31)) (h0 : 0 ≤ n.toInt) (h1 : n.toInt ≤ 31) {i : Nat} (hi : i < 32) : sb_t z i = decide ((i : Int) = n.toInt) := by
  rw [sb_1 ey] at e
  subst e
  unfold sb_t
  rw [Int32.toBitVec_shiftLeft, BitVec.getLsbD_shiftLeft', sb_n h0 h1, show (1 : Int32).toBitVec = 1#32 from rfl, BitVec.getLsbD_one]
  obtain ⟨k, hk⟩ : ∃ k : Nat, n.toInt = (k : Int) := ⟨n.toInt.toNat, by omega⟩
  rw [hk, Int.toNat_natCast]
  by_cases h : i = k
  · subst h
    simp
    omega
  · have h9 : ¬ ((i : Int) = (k : Int)) := by omega
    rw [decide_eq_false h9]
    simp
    omega
/-! What can be reached by parts. -/
def sq_R (pc pg : Nat → Int32) (x y : Nat) : Prop := ∀ P : Nat → Prop, (∀ k : Nat, (k : Int) < (pc x).toInt → P (pg (5 * x + k)).toInt.toNat) → (∀ g k : Nat, P g → (k : Int) < (pc g).toInt → P (pg (5 * g + k)).toInt.toNat) → P y
theorem sq_R1 {pc pg : Nat → Int32} {x k : Nat} (h : (k : Int) < (pc x).toInt) : sq_R pc pg x (pg (5 * x + k)).toInt.toNat := fun _ h1 _ => h1 k h
theorem sq_Rs {pc pg : Nat → Int32} {x g k : Nat} (h0 : sq_R pc pg x g) (h : (k : Int) < (pc g).toInt) : sq_R pc pg x (pg (5 * g + k)).toInt.toNat := fun P h1 h2 => h2 g k (h0 P h1 h2) h
theorem sq_Rt {pc pg : Nat → Int32} {x y z : Nat} (h : sq_R pc pg x y) (h' : sq_R pc pg y z) : sq_R pc pg x z :=
  h' (sq_R pc pg x) (fun _ hk => sq_Rs h hk) (fun _ _ hg hk => sq_Rs hg hk)
/-- within r steps -/
def sq_N (pc pg : Nat → Int32) (s : Nat) : Nat → Nat → Prop
  | 0, x => x = s
  | r + 1, x => sq_N pc pg s r x ∨ ∃ g k : Nat, g < 16 ∧ sq_N pc pg s r g ∧ (k : Int) < (pc g).toInt ∧ x = (pg (5 * g + k)).toInt.toNat
theorem sq_Nm {pc pg : Nat → Int32} {s x : Nat} : ∀ (j r : Nat), sq_N pc pg s r x → sq_N pc pg s (r + j) x
  | 0, _, h => h
  | j + 1, r, h => Or.inl (sq_Nm j r h)
theorem sq_Nr {pc pg : Nat → Int32} {s : Nat} : ∀ (r x : Nat), sq_N pc pg s r x → x = s ∨ sq_R pc pg s x
  | 0, _, h => Or.inl h
  | r + 1, x, h => by
    rcases h with h | ⟨g, k, _, hg, hk, rfl⟩
    · exact sq_Nr r x h
    · rcases sq_Nr r g hg with rfl | h2
      · exact Or.inr (sq_R1 hk)
      · exact Or.inr (sq_Rs h2 hk)
/-- where nothing comes in a step, nothing comes later -/
theorem sq_Nc {pc pg : Nat → Int32} {s r : Nat} (h : ∀ x, x < 16 → sq_N pc pg s (r + 1) x → sq_N pc pg s r x) (hb : ∀ g k : Nat, g < 16 → (k : Int) < (pc g).toInt → (pg (5 * g + k)).toInt.toNat < 16) : ∀ (j x : Nat), x < 16 → sq_N pc pg s (r + j) x → sq_N pc pg s r x
  | 0, _, _, h' => h'
  | j + 1, x, hx, h' => by
    rcases h' with h' | ⟨g, k, hg, h1, hk, rfl⟩
    · exact sq_Nc h hb j x hx h'
    · exact h _ (hb g k hg hk) (Or.inr ⟨g, k, hg, sq_Nc h hb j g hg h1, hk, rfl⟩)
def sq_n (p : Nat → Prop) [DecidablePred p] : Nat → Nat
  | 0 => 0
  | n + 1 => sq_n p n + (if p n then 1 else 0)
theorem sq_nl (p : Nat → Prop) [DecidablePred p] : ∀ n : Nat, sq_n p n ≤ n
  | 0 => Nat.le_refl 0
  | n + 1 => by
    have h1 := sq_nl p n
    show sq_n p n + (if p n then 1 else 0) ≤ n + 1
    split <;> omega
theorem sq_nm {p q : Nat → Prop} [DecidablePred p] [DecidablePred q] (h : ∀ x, p x → q x) : ∀ n : Nat, sq_n p n ≤ sq_n q n
  | 0 => Nat.le_refl 0
  | n + 1 => by
    have h1 := sq_nm h n
    show sq_n p n + (if p n then 1 else 0) ≤ sq_n q n + (if q n then 1 else 0)
    by_cases hp : p n
    · rw [if_pos hp, if_pos (h n hp)]
      omega
    · rw [if_neg hp]
      omega
theorem sq_ns {p q : Nat → Prop} [DecidablePred p] [DecidablePred q] (h : ∀ x, p x → q x) {y : Nat} (hq : q y) (hp : ¬ p y) : ∀ n : Nat, y < n → sq_n p n < sq_n q n
  | 0, hy => absurd hy (by omega)
  | n + 1, hy => by
    show sq_n p n + (if p n then 1 else 0) < sq_n q n + (if q n then 1 else 0)
    by_cases hyn : y = n
    · subst hyn
      have h1 := sq_nm h y
      rw [if_pos hq, if_neg hp]
      omega
    · have h1 := sq_ns h hq hp n (by omega)
      by_cases hp9 : p n
      · rw [if_pos hp9, if_pos (h n hp9)]
        omega
      · rw [if_neg hp9]
        omega
/-- sixteen steps are enough for sixteen goods -/
theorem sq_N16 {pc pg : Nat → Int32} {s : Nat} (hs : s < 16) : ∃ r, r < 16 ∧ ∀ x, x < 16 → sq_N pc pg s (r + 1) x → sq_N pc pg s r x := by
  have hD : ∀ q, DecidablePred (sq_N pc pg s q) := fun q x => Classical.propDecidable _
  have hc : ∀ r : Nat, (∀ q, q < r → ¬ ∀ x, x < 16 → sq_N pc pg s (q + 1) x → sq_N pc pg s q x) → r + 1 ≤ sq_n (sq_N pc pg s r) 16 := by
    intro r
    induction r with
    | zero =>
      intro _
      have h1 : sq_n (fun _ => False) 16 < sq_n (sq_N pc pg s 0) 16 := sq_ns (p := fun _ => False) (q := sq_N pc pg s 0) (fun _ h => h.elim) (y := s) (show sq_N pc pg s 0 s from rfl) (fun h => h) 16 hs
      omega
    | succ r ih =>
      intro h
      have h1 := ih (fun q hq => h q (by omega))
      have h2 := h r (by omega)
      obtain ⟨x, h3⟩ := Classical.not_forall.mp h2
      obtain ⟨hx, h4⟩ := Classical.not_imp.mp h3
      obtain ⟨h5, h6⟩ := Classical.not_imp.mp h4
      have h7 := sq_ns (p := sq_N pc pg s r) (q := sq_N pc pg s (r + 1)) (fun _ h => Or.inl h) h5 h6 16 hx
      omega
  apply Classical.byContradiction
  intro hno
  have h1 := hc 16 (fun q hq h => hno ⟨q, hq, h⟩)
  have h2 := sq_nl (sq_N pc pg s 16) 16
  omega
theorem sq_NR {pc pg : Nat → Int32} {s y : Nat} (hs : s < 16) (hb : ∀ g k : Nat, g < 16 → (k : Int) < (pc g).toInt → (pg (5 * g + k)).toInt.toNat < 16) (h : y = s ∨ sq_R pc pg s y) : sq_N pc pg s 16 y := by
  obtain ⟨r, hr, h1⟩ := sq_N16 (pc := pc) (pg := pg) hs
  have hcl : ∀ g k : Nat, g < 16 → sq_N pc pg s 16 g → (k : Int) < (pc g).toInt → sq_N pc pg s 16 (pg (5 * g + k)).toInt.toNat := by
    intro g k hg h2 hk
    have h3 : sq_N pc pg s r g := by
      have h4 : sq_N pc pg s (r + (16 - r)) g := by
        rw [show r + (16 - r) = 16 by omega]
        exact h2
      exact sq_Nc h1 hb (16 - r) g hg h4
    have h5 : sq_N pc pg s (r + 1) (pg (5 * g + k)).toInt.toNat := Or.inr ⟨g, k, hg, h3, hk, rfl⟩
    have h6 := sq_Nm (15 - r) _ h5
    rw [show r + 1 + (15 - r) = 16 by omega] at h6
    exact h6
  have h0 : sq_N pc pg s 16 s := by
    have h9 := sq_Nm (pc := pc) (pg := pg) (s := s) (x := s) 16 0 rfl
    rw [show (0 : Nat) + 16 = 16 from rfl] at h9
    exact h9
  rcases h with rfl | h
  · exact h0
  · exact (h (fun x => x < 16 ∧ sq_N pc pg s 16 x) (fun k hk => ⟨hb s k hs hk, hcl s k hs h0 hk⟩) (fun g k hg hk => ⟨hb g k hg.1 hk, hcl g k hg.1 hg.2 hk⟩)).2
/-- a new part -/
theorem sq_Ra {pc pg pc' pg' : Nat → Int32} {good part n1 : Int32} (h0 : 0 ≤ (pc good.toInt.toNat).toInt) (h4 : (pc good.toInt.toNat).toInt ≤ 4) (hb : ∀ g : Nat, (pc g).toInt ≤ 5 ∨ 16 ≤ g) (hbp : ∀ g k : Nat, g < 16 → (k : Int) < (pc g).toInt → (pg (5 * g + k)).toInt.toNat < 16) (hq : part.toInt ≤ 15) (hn : n1.toInt = (pc good.toInt.toNat).toInt + 1) (hpc : pc' = upd pc good.toInt.toNat n1) (hpg : pg' = upd pg (5 * good.toInt.toNat + (pc good.toInt.toNat).toInt.toNat) part) {x : Nat} (hx : x < 16) (y : Nat) :
    sq_R pc' pg' x y ↔ (sq_R pc pg x y ∨ ((x = good.toInt.toNat ∨ sq_R pc pg x good.toInt.toNat) ∧ (y = part.toInt.toNat ∨ sq_R pc pg part.toInt.toNat y))) := by
  have hold : ∀ g k : Nat, g < 16 → (k : Int) < (pc g).toInt → (k : Int) < (pc' g).toInt ∧ pg' (5 * g + k) = pg (5 * g + k) := by
    intro g k hg9 hk
    have h5 := hb g
    rw [hpc, hpg, sf_uu, sf_uu]
    refine ⟨?_, ?_⟩
    · split
      · rename_i e
        subst e
        omega
      · exact hk
    · rw [if_neg (fun e => ?_)]
      by_cases e2 : g = good.toInt.toNat
      · subst e2
        omega
      · omega
  have hnew : ∀ g k : Nat, g < 16 → (k : Int) < (pc' g).toInt → ((k : Int) < (pc g).toInt ∧ pg' (5 * g + k) = pg (5 * g + k)) ∨ (g = good.toInt.toNat ∧ pg' (5 * g + k) = part) := by
    intro g k hg9 hk
    by_cases hk2 : (k : Int) < (pc g).toInt
    · exact Or.inl ⟨hk2, (hold g k hg9 hk2).2⟩
    · rw [hpc, sf_uu] at hk
      split at hk
      · rename_i e
        refine Or.inr ⟨e, ?_⟩
        subst e
        rw [hpg, sf_uu, if_pos (by omega)]
      · exact absurd hk hk2
  have hmono : ∀ z : Nat, z < 16 → ∀ y : Nat, sq_R pc pg z y → sq_R pc' pg' z y ∧ y < 16 := by
    intro z hz y h
    refine h (fun y => sq_R pc' pg' z y ∧ y < 16) (fun k hk => ?_) (fun g k hg9 hk => ?_)
    · obtain ⟨a1, a2⟩ := hold z k hz hk
      rw [← a2]
      refine ⟨sq_R1 a1, ?_⟩
      rw [a2]
      exact hbp z k hz hk
    · obtain ⟨a1, a2⟩ := hold g k hg9.2 hk
      rw [← a2]
      refine ⟨sq_Rs hg9.1 a1, ?_⟩
      rw [a2]
      exact hbp g k hg9.2 hk
  constructor
  · intro h
    have h9 := h (fun y => y < 16 ∧ (sq_R pc pg x y ∨ ((x = good.toInt.toNat ∨ sq_R pc pg x good.toInt.toNat) ∧ (y = part.toInt.toNat ∨ sq_R pc pg part.toInt.toNat y)))) (fun k hk => ?_) (fun g k hg9 hk => ?_)
    · exact h9.2
    · rcases hnew x k hx hk with ⟨a1, a2⟩ | ⟨a1, a2⟩
      · rw [a2]
        exact ⟨hbp x k hx a1, Or.inl (sq_R1 a1)⟩
      · rw [a2]
        exact ⟨by omega, Or.inr ⟨Or.inl a1, Or.inl rfl⟩⟩
    · rcases hnew g k hg9.1 hk with ⟨a1, a2⟩ | ⟨a1, a2⟩
      · rw [a2]
        refine ⟨hbp g k hg9.1 a1, ?_⟩
        rcases hg9.2 with b | ⟨b1, b2⟩
        · exact Or.inl (sq_Rs b a1)
        · refine Or.inr ⟨b1, Or.inr ?_⟩
          rcases b2 with b2 | b2
          · rw [b2] at a1 ⊢
            exact sq_R1 a1
          · exact sq_Rs b2 a1
      · rw [a2]
        refine ⟨by omega, Or.inr ⟨?_, Or.inl rfl⟩⟩
        rcases hg9.2 with b | ⟨b1, _⟩
        · rw [a1] at b
          exact Or.inr b
        · exact b1
  · have hedge : sq_R pc' pg' good.toInt.toNat part.toInt.toNat := by
      have h1 : (((pc good.toInt.toNat).toInt.toNat : Nat) : Int) < (pc' good.toInt.toNat).toInt := by
        rw [hpc, sf_uu, if_pos rfl]
        omega
      have h2 := sq_R1 (pg := pg') h1
      rw [hpg, sf_uu, if_pos rfl] at h2
      rw [← hpg] at h2
      exact h2
    rintro (h | ⟨h1, h2⟩)
    · exact (hmono x hx y h).1
    · have h3 : sq_R pc' pg' x part.toInt.toNat := by
        rcases h1 with rfl | h1
        · exact hedge
        · exact sq_Rt (hmono x hx _ h1).1 hedge
      rcases h2 with rfl | h2
      · exact h3
      · exact sq_Rt h3 (hmono _ (by omega) y h2).1
def sq_v (f : Nat → Int32) (g q : Int32) (x i : Nat) : Bool := sb_t (f x) i || ((decide ((x : Int) = g.toInt) || sb_t (f x) g.toInt.toNat) && (decide ((i : Int) = q.toInt) || sb_t (f q.toInt.toNat) i))
def sq_I (f f' : Nat → Int32) (g q : Int32) : Prop := ∀ x i : Nat, x < 16 → i < 16 → sb_t (f' x) i = sq_v f g q x i
def sq_L (f f' : Nat → Int32) (g q : Int32) (c : Int) : Prop := ∀ x : Nat, x < 16 → ((x : Int) < c → ∀ i : Nat, i < 16 → sb_t (f' x) i = sq_v f g q x i) ∧ (c ≤ (x : Int) → f' x = f x)
def sq_mo (m : Int32) (f : Nat → Int32) (q : Int32) : Prop := ∀ i : Nat, i < 16 → sb_t m i = (decide ((i : Int) = q.toInt) || sb_t (f q.toInt.toNat) i)
theorem sq_mk {f : Nat → Int32} {q v s m y : Int32} (hv : v.toInt = (f q.toInt.toNat).toInt) (ey : y.toInt = 1) (es : s = y <<< (q &&& 31)) (em : m = v ||| s) (h0 : 0 ≤ q.toInt) (h1 : q.toInt ≤ 31) : sq_mo m f q := by
  intro i hi
  rw [sb_or em, sb_eq hv, sb_sh ey es h0 h1 (by omega), Bool.or_comm]
theorem sq_L0 {f f' : Nat → Int32} {g q : Int32} {c : Int} (hc : c = 0) (hf : f' = f) : sq_L f f' g q c := fun x _ => ⟨fun h => absurd h (by omega), fun _ => by rw [hf]⟩
theorem sq_LI {f f' : Nat → Int32} {g q : Int32} {c : Int} (h : sq_L f f' g q c) (hc : 16 ≤ c) : sq_I f f' g q := fun x i hx hi => (h x hx).1 (by omega) i hi
theorem sq_LS {f f1 f2 : Nat → Int32} {g q m : Int32} {c c' : Int} {n : Nat} (h : sq_L f f1 g q c) (hm : sq_mo m f q) (hn : c = (n : Int)) (h16 : n < 16) (hc : c' = c + 1) (hs : (∃ v z : Int32, ((n : Int) = g.toInt ∨ sp_i (sb_t (f1 n) g.toInt.toNat) = 1) ∧ f2 = upd f1 n z ∧ z = v ||| m ∧ v.toInt = (f1 n).toInt) ∨ ((n : Int) ≠ g.toInt ∧ sp_i (sb_t (f1 n) g.toInt.toNat) ≠ 1 ∧ f2 = f1)) : sq_L f f2 g q c' := by
  intro x hx
  have hnn := (h n h16).2 (by omega)
  by_cases hxn : x = n
  · subst hxn
    refine ⟨fun _ i hi => ?_, fun h9 => absurd h9 (by omega)⟩
    unfold sq_v
    rcases hs with ⟨v, z, h1, h2, h3, h4⟩ | ⟨h1, h2, h3⟩
    · rw [h2, sf_uu, if_pos rfl, sb_or h3, sb_eq h4, hnn, hm i hi]
      have h5 : (decide ((x : Int) = g.toInt) || sb_t (f x) g.toInt.toNat) = true := by
        rcases h1 with h1 | h1
        · rw [decide_eq_true h1]
          rfl
        · rw [hnn] at h1
          rw [sp_iT h1]
          simp
      rw [h5]
      simp
    · rw [hnn] at h2
      rw [h3, hnn, decide_eq_false h1, sp_iF h2]
      simp
  · have he : f2 x = f1 x := by
      rcases hs with ⟨v, z, -, h2, -⟩ | ⟨-, -, h3⟩
      · rw [h2, sf_uu, if_neg hxn]
      · rw [h3]
    rw [he]
    exact ⟨fun h9 => (h x hx).1 (by omega), fun h9 => (h x hx).2 (by omega)⟩
/-! the reference's rounds -/
def sq_W (kn pc pg : Nat → Int32) (s r g k : Nat) : Prop := (∀ x : Nat, x < 16 → (kn x).toInt = 1 → x = s ∨ sq_R pc pg s x) ∧ (∀ x : Nat, x < 16 → sq_N pc pg s r x → (kn x).toInt = 1) ∧ (∀ g' k' : Nat, g' < 16 → sq_N pc pg s r g' → (k' : Int) < (pc g').toInt → (g' < g ∨ (g' = g ∧ k' < k)) → (kn (pg (5 * g' + k')).toInt.toNat).toInt = 1)
def sq_K (kn : Nat → Int32) (s : Nat) (c : Int) : Prop := ∀ x : Nat, (x : Int) < c → ((kn x).toInt = 1 ↔ x = s)
theorem sq_KS {kn kn' : Nat → Int32} {s : Nat} {c c' : Int} {i v : Int32} (h : sq_K kn s c) (hi : i.toInt = c) (h0 : 0 ≤ c) (hc : c' = c + 1) (hk : kn' = upd kn i.toInt.toNat v) (hv : v.toInt = 1 ↔ c = (s : Int)) : sq_K kn' s c' := by
  intro x hx
  rw [hk, sf_uu]
  by_cases hxc : x = i.toInt.toNat
  · rw [if_pos hxc, hv]
    omega
  · rw [if_neg hxc]
    exact h x (by omega)
theorem sq_W0 {kn pc pg : Nat → Int32} {s : Nat} {c : Int} {r g k : Nat} (h : sq_K kn s c) (hc : 16 ≤ c) (hr : r = 0) (hg : g = 0) (hk : k = 0) : sq_W kn pc pg s r g k := by
  subst hr hg hk
  refine ⟨fun x hx h1 => Or.inl ((h x (by omega)).mp h1), fun x hx h1 => (h x (by omega)).mpr h1, fun g' k' _ _ _ h1 => ?_⟩
  omega
theorem sq_Wk {kn kn' pc pg : Nat → Int32} {s r g k k2 : Nat} {v : Int32} {q : Int} (h : sq_W kn pc pg s r g k) (hg : g < 16) (hkp : (k : Int) < (pc g).toInt) (hkn : (kn g).toInt = 1) (hq : q = (pg (5 * g + k)).toInt) (hk : kn' = upd kn q.toNat v) (hv : v.toInt = 1) (hk2 : k2 = k + 1) : sq_W kn' pc pg s r g k2 := by
  subst hk2 hq hk
  obtain ⟨h1, h2, h3⟩ := h
  have hm : ∀ x : Nat, (kn x).toInt = 1 → (upd kn (pg (5 * g + k)).toInt.toNat v x).toInt = 1 := fun x hx => by
    rw [sf_uu]
    split
    · exact hv
    · exact hx
  refine ⟨fun x hx hx1 => ?_, fun x hx hx1 => hm x (h2 x hx hx1), fun g' k' hg' hn hk' hlt => ?_⟩
  · rw [sf_uu] at hx1
    split at hx1
    · rename_i e
      subst e
      rcases h1 g hg hkn with rfl | h9
      · exact Or.inr (sq_R1 hkp)
      · exact Or.inr (sq_Rs h9 hkp)
    · exact h1 x hx hx1
  · by_cases he : g' = g ∧ k' = k
    · obtain ⟨e1, e2⟩ := he
      subst e1 e2
      rw [sf_uu, if_pos rfl]
      exact hv
    · exact hm _ (h3 g' k' hg' hn hk' (by omega))
theorem sq_Wg {kn pc pg : Nat → Int32} {s r g k g2 k2 : Nat} (h : sq_W kn pc pg s r g k) (hg : g < 16) (hh : (pc g).toInt ≤ (k : Int) ∨ (kn g).toInt ≠ 1) (hg2 : g2 = g + 1) (hk2 : k2 = 0) : sq_W kn pc pg s r g2 k2 := by
  subst hg2 hk2
  obtain ⟨h1, h2, h3⟩ := h
  refine ⟨h1, h2, fun g' k' hg' hn hk' hlt => ?_⟩
  by_cases he : g' = g
  · subst he
    rcases hh with hh | hh
    · exact h3 g' k' hg' hn hk' (by omega)
    · exact absurd (h2 g' hg hn) hh
  · exact h3 g' k' hg' hn hk' (by omega)
theorem sq_Wr {kn pc pg : Nat → Int32} {s r g k r2 g2 k2 : Nat} (h : sq_W kn pc pg s r g k) (hg : 16 ≤ g) (hr2 : r2 = r + 1) (hg2 : g2 = 0) (hk2 : k2 = 0) : sq_W kn pc pg s r2 g2 k2 := by
  subst hr2 hg2 hk2
  obtain ⟨h1, h2, h3⟩ := h
  refine ⟨h1, fun x hx hn => ?_, fun g' k' _ _ _ hlt => by omega⟩
  rcases hn with hn | ⟨g', k', hg', hn, hk', rfl⟩
  · exact h2 x hx hn
  · exact h3 g' k' hg' hn hk' (by omega)
theorem sq_W16 {kn pc pg : Nat → Int32} {s r g k y : Nat} (h : sq_W kn pc pg s r g k) (hr : r = 16) (hs : s < 16) (hy : y < 16) (hb : ∀ g k : Nat, g < 16 → (k : Int) < (pc g).toInt → (pg (5 * g + k)).toInt.toNat < 16) : (kn y).toInt = 1 ↔ (y = s ∨ sq_R pc pg s y) := by
  subst hr
  exact ⟨h.1 y hy, fun h9 => h.2.1 y hy (sq_NR hs hb h9)⟩
/-! both sides -/
def sq_Z (ins pr pc pg : Nat → Int32) : Prop := (∀ x : Nat, x < 16 → pr x = pc x) ∧ ∀ x y : Nat, x < 16 → y < 16 → (sb_t (ins x) y = true ↔ sq_R pc pg x y)
def sq_F (ins ins' pr pr' : Nat → Int32) (r : Int) (g q : Int32) : Prop := (r ≠ 0 ∧ pr' = pr ∧ ins' = ins) ∨ (r = 0 ∧ (∃ n1 : Int32, n1.toInt = (pr g.toInt.toNat).toInt + 1 ∧ pr' = upd pr g.toInt.toNat n1) ∧ sq_I ins ins' g q)
def sq_G (pc pc' pg pg' : Nat → Int32) (c : Int) (g q : Int32) : Prop := (c ≠ 0 ∧ pc' = pc ∧ pg' = pg) ∨ (c = 0 ∧ (∃ n1 : Int32, n1.toInt = (pc g.toInt.toNat).toInt + 1 ∧ pc' = upd pc g.toInt.toNat n1) ∧ pg' = upd pg (5 * g.toInt.toNat + (pc g.toInt.toNat).toInt.toNat) q)
theorem sq_Zt {ins pr pc pg : Nat → Int32} (h : sq_Z ins pr pc pg) {g q : Int32} (hg : 0 ≤ g.toInt ∧ g.toInt ≤ 15) (hq : 0 ≤ q.toInt ∧ q.toInt ≤ 15) {t : Int} (ht : t = 1 ↔ (g.toInt.toNat = q.toInt.toNat ∨ sq_R pc pg q.toInt.toNat g.toInt.toNat)) : t = 1 ↔ (g.toInt = q.toInt ∨ sp_i (sb_t (ins q.toInt.toNat) g.toInt.toNat) = 1) := by
  have h1 := h.2 q.toInt.toNat g.toInt.toNat (by omega) (by omega)
  have e : g.toInt.toNat = q.toInt.toNat ↔ g.toInt = q.toInt := by omega
  rw [ht, ← h1, e]
  generalize (g.toInt = q.toInt) = z
  cases sb_t (ins q.toInt.toNat) g.toInt.toNat <;> simp [sp_i]
theorem sq_ZS {ins pr pc pg ins' pr' pc' pg' : Nat → Int32} {r c : Int} {g q : Int32} (h : sq_Z ins pr pc pg) (F : sq_F ins ins' pr pr' r g q) (G : sq_G pc pc' pg pg' c g q) (hrc : r = c) (hb : ∀ g : Nat, g < 16 → 0 ≤ (pc g).toInt ∧ (pc g).toInt ≤ 5) (hbp : ∀ k : Nat, k < 80 → (pg k).toInt ≤ 15) (hok : c = 0 → (0 ≤ g.toInt ∧ g.toInt ≤ 15) ∧ (0 ≤ q.toInt ∧ q.toInt ≤ 15) ∧ (pc g.toInt.toNat).toInt < 5) : sq_Z ins' pr' pc' pg' := by
  subst hrc
  rcases F with ⟨a1, a2, a3⟩ | ⟨a1, ⟨n1, a2, a3⟩, a4⟩ <;> rcases G with ⟨b1, b2, b3⟩ | ⟨b1, ⟨n2, b2, b3⟩, b4⟩
  · rw [a2, a3, b2, b3]
    exact h
  · exact absurd b1 a1
  · exact absurd a1 b1
  · obtain ⟨g1, g2, g3⟩ := hok a1
    have hgb := hb g.toInt.toNat (by omega)
    have hbp2 : ∀ g k : Nat, g < 16 → (k : Int) < (pc g).toInt → (pg (5 * g + k)).toInt.toNat < 16 := fun x k hx hk => by
      have h1 := hb x hx
      have h2 := hbp (5 * x + k) (by omega)
      omega
    refine ⟨fun x hx => ?_, fun x y hx hy => ?_⟩
    · rw [a3, b3, sf_uu, sf_uu]
      split
      · apply sb_eq
        rw [a2, b2, h.1 _ (by omega)]
      · exact h.1 x hx
    · rw [a4 x y hx hy, sq_Ra (good := g) (part := q) hgb.1 (by omega) (fun z => by
          by_cases hz : z < 16
          · exact Or.inl (hb z hz).2
          · exact Or.inr (by omega)) hbp2 (by omega) b2 b3 b4 hx y]
      unfold sq_v
      rw [← h.2 x y hx hy, ← h.2 x g.toInt.toNat hx (by omega), ← h.2 q.toInt.toNat y (by omega) hy]
      have e1 : (x : Int) = g.toInt ↔ x = g.toInt.toNat := by omega
      have e2 : (y : Int) = q.toInt ↔ y = q.toInt.toNat := by omega
      simp only [Bool.or_eq_true, Bool.and_eq_true, decide_eq_true_eq, e1, e2]
theorem sq_Z0 {ins pr pc pg : Nat → Int32} (h1 : ∀ x, ins x = 0) (h2 : ∀ x, pr x = 0) (h3 : ∀ x, pc x = 0) : sq_Z ins pr pc pg := by
  refine ⟨fun x _ => by rw [h2, h3], fun x y _ _ => ?_⟩
  rw [h1]
  constructor
  · intro h
    exact absurd h (by simp [sb_t])
  · intro h
    have hz : (0 : Int32).toInt = 0 := by decide
    exact (h (fun _ => False) (fun k hk => by rw [h3, hz] at hk; omega) (fun _ _ hh _ => hh)).elim
theorem sf_iandE {K : wq_T} {L : wq_L} {S : List wq_V} {w : wq_W} {a b : Nat} {x y : Int32} {n : Nat} (hy : y.toInt = n) (hn : n < 2147483648) (hk : ∀ z : Int32, 0 ≤ z.toInt → z.toInt ≤ n → z = x &&& y → K L (.inl (.int z) :: S) w a b) : wq_i2 (fun x y => x &&& y) K L (.inl (.int y) :: .inl (.int x) :: S) w a b :=
  sf_iand (K := fun L' S' w' a' b' => S' = .inl (.int (x &&& y)) :: S → K L' S' w' a' b') (L := L) (S := S) (w := w) (a := a) (b := b) hy hn (fun z h1 h2 e => hk z h1 h2 (by
    have e1 := List.head_eq_of_cons_eq e
    have e2 := Sum.inl.inj e1
    injection e2)) rfl
