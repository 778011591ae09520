def sc_b (p Hd K F A f3 : Nat → Int32) (am : Nat → Nat → Int) (nN nH : Int) (g : Int) : Int := sj_B (sp_fi p Hd K F A (am g.toNat) nN.toNat) (sp_d f3) (sp_sh p Hd K F (am g.toNat) nN.toNat) nH.toNat
theorem sc_br {p Hd K F A f3 : Nat → Int32} {am : Nat → Nat → Int} {nN nH g : Int} (h : 0 ≤ nH) : -1 ≤ sc_b p Hd K F A f3 am nN nH g ∧ sc_b p Hd K F A f3 am nN nH g < nH := by
  have h1 := sj_Br (sp_fi p Hd K F A (am g.toNat) nN.toNat) (sp_d f3) (sp_sh p Hd K F (am g.toNat) nN.toNat) nH.toNat
  unfold sc_b
  omega
theorem sc_bE {p Hd K F A p' Hd' K' F' A' f3 : Nat → Int32} {am am' : Nat → Nat → Int} {n m n' m' g g' : Int} (hJ : sf_J f3 p' n) (he : sf_Q n p p') (h1 : sf_Q m Hd Hd') (h2 : sf_Q m K K') (h3 : sf_Q m F F') (h4 : sf_Q m A A') (hF : ∀ i : Nat, (i : Int) < m → 0 ≤ (F' i).toInt ∧ (F' i).toInt ≤ 7) (ha : ∀ j : Nat, j < 8 → am g.toNat j = am' g.toNat j) (hn : n' = n) (hm : m' = m) (hg : g = g') : sc_b p Hd K F A f3 am m' n' g = sc_b p' Hd' K' F' A' f3 am' m n g' := by
  subst hg
  exact sp_BE hJ he h1 h2 h3 h4 hF ha hn hm
/-! How many bits. -/
def sb_q (p : Nat → Bool) : Nat → Nat
  | 0 => 0
  | n + 1 => sb_q p n + cond (p n) 1 0
theorem sb_ql {p : Nat → Bool} : ∀ n : Nat, sb_q p n ≤ n
  | 0 => Nat.le_refl 0
  | n + 1 => by
    have h := sb_ql (p := p) n
    show sb_q p n + cond (p n) 1 0 ≤ n + 1
    cases p n <;> simp <;> omega
theorem sb_qm {p q : Nat → Bool} : ∀ n : Nat, (∀ i, i < n → p i = true → q i = true) → sb_q p n ≤ sb_q q n
  | 0, _ => Nat.le_refl 0
  | n + 1, h => by
    have h1 := sb_qm (p := p) (q := q) n (fun i hi => h i (by omega))
    have h2 := h n (by omega)
    show sb_q p n + cond (p n) 1 0 ≤ sb_q q n + cond (q n) 1 0
    cases hp : p n
    · simp; omega
    · rw [h2 hp]; simp; omega
theorem sb_qs {p q : Nat → Bool} {y : Nat} (hq : q y = true) (hp : p y = false) : ∀ n : Nat, y < n → (∀ i, i < n → p i = true → q i = true) → sb_q p n < sb_q q n
  | 0, hy, _ => absurd hy (by omega)
  | n + 1, hy, h => by
    show sb_q p n + cond (p n) 1 0 < sb_q q n + cond (q n) 1 0
    by_cases hyn : y = n
    · subst hyn
      have h1 := sb_qm (p := p) (q := q) y (fun i hi => h i (by omega))
      rw [hq, hp]
      simp
      omega
    · have h1 := sb_qs hq hp n (by omega) (fun i hi => h i (by omega))
      have h2 := h n (by omega)
      cases hpn : p n
      · simp; omega
      · rw [h2 hpn]; simp; omega
def sb_c (s : Int32) : Nat := sb_q (sb_t s) 16
theorem sb_c15 {s : Int32} {x : Nat} (hx : x < 16) (h : sb_t s x = false) : sb_c s ≤ 15 := by
  have h1 := sb_qs (p := sb_t s) (q := fun _ => true) (y := x) rfl h 16 hx (fun _ _ _ => rfl)
  have h2 := sb_ql (p := fun _ => true) 16
  unfold sb_c
  omega
/-! What a good's rule says of it. -/
def sm_fo (pc : Nat → Int) (pg : Nat → Nat → Nat) (ln : Nat → Nat → Bool) (m : Nat → Bool) (g k : Nat) : Bool := !ln g k || (decide (0 < pc (pg g k)) && !m (pg g k))
def sm_A (pv : Nat → Nat → Int) (g : Nat) : Nat → Int
  | 0 => 0
  | n + 1 => sm_A pv g n + pv g n
def sm_F (fo : Nat → Bool) (pv : Nat → Nat → Int) (g : Nat) : Nat → Int
  | 0 => 0
  | n + 1 => sm_F fo pv g n + cond (fo n) (pv g n) 0
def sm_C (fo : Nat → Bool) (pg : Nat → Nat → Nat) (cls : Nat → Int) (g : Nat) : Nat → Bool
  | 0 => true
  | n + 1 => sm_C fo pg cls g n && !(fo n && decide (cls (pg g n) = cls g))
def sm_V (pc : Nat → Int) (pg : Nat → Nat → Nat) (pv : Nat → Nat → Int) (ln : Nat → Nat → Bool) (cls : Nat → Int) (rh rk rl : Int → Int) (m : Nat → Bool) (g : Nat) : Bool :=
  if rh (cls g) < 0 ∨ pc g ≤ 0 then false else if rk (rh (cls g)) = 0 then sm_C (sm_fo pc pg ln m g) pg cls g (pc g).toNat else decide (1000 * sm_F (sm_fo pc pg ln m g) pv g (pc g).toNat ≤ rl (rh (cls g)) * sm_A pv g (pc g).toNat)
theorem sm_Ac {pv pv' : Nat → Nat → Int} {g : Nat} : ∀ n : Nat, (∀ k, k < n → pv g k = pv' g k) → sm_A pv g n = sm_A pv' g n
  | 0, _ => rfl
  | n + 1, h => by
    show sm_A pv g n + pv g n = sm_A pv' g n + pv' g n
    rw [sm_Ac n (fun k hk => h k (by omega)), h n (by omega)]
theorem sm_Fc {fo fo' : Nat → Bool} {pv pv' : Nat → Nat → Int} {g : Nat} : ∀ n : Nat, (∀ k, k < n → fo k = fo' k ∧ pv g k = pv' g k) → sm_F fo pv g n = sm_F fo' pv' g n
  | 0, _ => rfl
  | n + 1, h => by
    show sm_F fo pv g n + cond (fo n) (pv g n) 0 = sm_F fo' pv' g n + cond (fo' n) (pv' g n) 0
    rw [sm_Fc n (fun k hk => h k (by omega)), (h n (by omega)).1, (h n (by omega)).2]
theorem sm_Cc {fo fo' : Nat → Bool} {pg pg' : Nat → Nat → Nat} {cls cls' : Nat → Int} {g : Nat} (hg : cls g = cls' g) : ∀ n : Nat, (∀ k, k < n → fo k = fo' k ∧ pg g k = pg' g k ∧ cls (pg g k) = cls' (pg g k)) → sm_C fo pg cls g n = sm_C fo' pg' cls' g n
  | 0, _ => rfl
  | n + 1, h => by
    show (sm_C fo pg cls g n && !(fo n && decide (cls (pg g n) = cls g))) = (sm_C fo' pg' cls' g n && !(fo' n && decide (cls' (pg' g n) = cls' g)))
    obtain ⟨h1, h2, h3⟩ := h n (by omega)
    rw [sm_Cc hg n (fun k hk => h k (by omega)), h1, h3, h2, hg]
/-- alike where the rows are alike and the parts' answers are -/
theorem sm_VE {pc pc' : Nat → Int} {pg pg' : Nat → Nat → Nat} {pv pv' : Nat → Nat → Int} {ln ln' : Nat → Nat → Bool} {cls cls' : Nat → Int} {rh rh' rk rk' rl rl' : Int → Int} {m m' : Nat → Bool} {g : Nat} (h1 : pc g = pc' g) (hc : cls g = cls' g) (hr : rh (cls g) = rh' (cls g)) (hk : 0 ≤ rh (cls g) → rk (rh (cls g)) = rk' (rh (cls g)) ∧ rl (rh (cls g)) = rl' (rh (cls g))) (hp : ∀ k : Nat, (k : Int) < pc g → pg g k = pg' g k ∧ pv g k = pv' g k ∧ ln g k = ln' g k ∧ pc (pg g k) = pc' (pg g k) ∧ cls (pg g k) = cls' (pg g k) ∧ m (pg g k) = m' (pg g k)) : sm_V pc pg pv ln cls rh rk rl m g = sm_V pc' pg' pv' ln' cls' rh' rk' rl' m' g := by
  unfold sm_V
  rw [← hc, ← hr, ← h1]
  have hfo : ∀ k, k < (pc g).toNat → sm_fo pc pg ln m g k = sm_fo pc' pg' ln' m' g k := fun k hk9 => by
    obtain ⟨a1, a2, a3, a4, a5, a6⟩ := hp k (by omega)
    unfold sm_fo
    rw [a3, a4, a6, a1]
  split
  · rfl
  · rename_i hn
    obtain ⟨k1, k2⟩ := hk (by omega)
    rw [k1, k2]
    split
    · exact sm_Cc hc _ (fun k hk9 => by
        obtain ⟨a1, a2, a3, a4, a5, a6⟩ := hp k (by omega)
        exact ⟨hfo k hk9, a1, a5⟩)
    · rw [sm_Fc (pv' := pv') (fo' := sm_fo pc' pg' ln' m' g) _ (fun k hk9 => ⟨hfo k hk9, (hp k (by omega)).2.1⟩), sm_Ac (pv' := pv') _ (fun k hk9 => (hp k (by omega)).2.1)]
/-! by fuel -/
def sm_D (V : (Nat → Bool) → Nat → Bool) : Nat → Nat → Bool
  | 0, _ => false
  | f + 1, g => V (sm_D V f) g
def sm_lo (V : (Nat → Bool) → Nat → Bool) (pc : Nat → Int) (pg : Nat → Nat → Nat) : Prop := ∀ (m m' : Nat → Bool) (g : Nat), g < 16 → (∀ k : Nat, (k : Int) < pc g → m (pg g k) = m' (pg g k)) → V m g = V m' g
def sm_rk (rk : Nat → Nat) (pc : Nat → Int) (pg : Nat → Nat → Nat) : Prop := ∀ g : Nat, g < 16 → rk g < 16 ∧ ∀ k : Nat, (k : Int) < pc g → pg g k < 16 ∧ rk (pg g k) < rk g
theorem sm_Df {V : (Nat → Bool) → Nat → Bool} {pc : Nat → Int} {pg : Nat → Nat → Nat} {rk : Nat → Nat} (hV : sm_lo V pc pg) (hr : sm_rk rk pc pg) : ∀ (f f' g : Nat), g < 16 → rk g < f → rk g < f' → sm_D V f g = sm_D V f' g
  | 0, _, _, _, h, _ => absurd h (by omega)
  | f + 1, 0, _, _, _, h => absurd h (by omega)
  | f + 1, f' + 1, g, hg, h, h' => by
    show V (sm_D V f) g = V (sm_D V f') g
    refine hV _ _ g hg (fun k hk => ?_)
    obtain ⟨h1, h2⟩ := (hr g hg).2 k hk
    exact sm_Df hV hr f f' _ h1 (by omega) (by omega)
theorem sm_DV {V : (Nat → Bool) → Nat → Bool} {pc : Nat → Int} {pg : Nat → Nat → Nat} {rk : Nat → Nat} (hV : sm_lo V pc pg) (hr : sm_rk rk pc pg) {g : Nat} (hg : g < 16) (m : Nat → Bool) (hm : ∀ k : Nat, (k : Int) < pc g → m (pg g k) = sm_D V 16 (pg g k)) : V m g = sm_D V 16 g := by
  show V m g = V (sm_D V 15) g
  refine hV _ _ g hg (fun k hk => ?_)
  obtain ⟨h1, h2⟩ := (hr g hg).2 k hk
  have h3 := (hr g hg).1
  rw [hm k hk]
  exact sm_Df hV hr 16 15 _ h1 (by omega) (by omega)
theorem sm_DE {V V' : (Nat → Bool) → Nat → Bool} {pc : Nat → Int} {pg : Nat → Nat → Nat} (hb : ∀ g k : Nat, g < 16 → (k : Int) < pc g → pg g k < 16) (hE : ∀ (m m' : Nat → Bool) (g : Nat), g < 16 → (∀ k : Nat, (k : Int) < pc g → m (pg g k) = m' (pg g k)) → V m g = V' m' g) : ∀ (f g : Nat), g < 16 → sm_D V f g = sm_D V' f g
  | 0, _, _ => rfl
  | f + 1, g, hg => by
    show V (sm_D V f) g = V' (sm_D V' f) g
    exact hE _ _ g hg (fun k hk => sm_DE hb hE f _ (hb g k hg hk))
/-! the class goes by how much is inside -/
def sm_B (made ask : Nat → Bool) (cnt : Nat → Nat) (D : Nat → Bool) (s e : Nat) : Prop := ∀ x : Nat, x < 16 → made x = (ask x && (decide (cnt x < s) || (decide (cnt x = s) && decide (x < e))) && D x)
theorem sm_B0 {made ask : Nat → Bool} {cnt : Nat → Nat} {D : Nat → Bool} {s e : Nat} (h : ∀ x, x < 16 → made x = false) (hs : s = 0) (he : e = 0) : sm_B made ask cnt D s e := by
  intro x hx
  subst hs he
  rw [h x hx, decide_eq_false (show ¬ cnt x < 0 by omega), decide_eq_false (show ¬ x < 0 by omega)]
  simp
theorem sm_BS {made made' ask : Nat → Bool} {cnt : Nat → Nat} {D : Nat → Bool} {s e e' : Nat} (h : sm_B made ask cnt D s e) (he : e < 16) (he' : e' = e + 1) (h2 : (made' = made ∧ (ask e = false ∨ cnt e ≠ s ∨ D e = false)) ∨ (ask e = true ∧ cnt e = s ∧ D e = true ∧ ∀ x, x < 16 → made' x = (made x || decide (x = e)))) : sm_B made' ask cnt D s e' := by
  subst he'
  intro x hx
  have h1 := h x hx
  by_cases hxe : x = e
  · subst hxe
    rcases h2 with ⟨a1, a2⟩ | ⟨a1, a2, a3, a4⟩
    · rw [a1, h1]
      rcases a2 with a | a | a
      · rw [a]; simp
      · rw [decide_eq_false a]; simp
      · rw [a]; simp
    · rw [a4 x hx, a1, a3, a2]
      simp
  · have e1 : decide (x < e + 1) = decide (x < e) := by
      by_cases hlt : x < e
      · rw [decide_eq_true hlt, decide_eq_true (show x < e + 1 by omega)]
      · rw [decide_eq_false hlt, decide_eq_false (show ¬ x < e + 1 by omega)]
    rw [e1]
    rcases h2 with ⟨a1, _⟩ | ⟨_, _, _, a4⟩
    · rw [a1]; exact h1
    · rw [a4 x hx, decide_eq_false hxe, h1]
      simp
theorem sm_BN {made ask : Nat → Bool} {cnt : Nat → Nat} {D : Nat → Bool} {s e s' e' : Nat} (h : sm_B made ask cnt D s e) (he : 16 ≤ e) (hs : s' = s + 1) (he' : e' = 0) : sm_B made ask cnt D s' e' := by
  subst hs he'
  intro x hx
  rw [h x hx, decide_eq_true (show x < e by omega), decide_eq_false (show ¬ x < 0 by omega)]
  have e1 : (decide (cnt x < s) || decide (cnt x = s)) = decide (cnt x < s + 1) := by
    by_cases h1 : cnt x < s
    · rw [decide_eq_true h1, decide_eq_true (show cnt x < s + 1 by omega)]; rfl
    · by_cases h2 : cnt x = s
      · rw [decide_eq_true h2, decide_eq_true (show cnt x < s + 1 by omega)]; simp
      · rw [decide_eq_false h1, decide_eq_false h2, decide_eq_false (show ¬ cnt x < s + 1 by omega)]; rfl
  simp only [Bool.and_true, Bool.and_false, Bool.or_false, e1]
theorem sm_BE {made ask : Nat → Bool} {cnt : Nat → Nat} {D : Nat → Bool} {s e x : Nat} (h : sm_B made ask cnt D s e) (hx : x < 16) (ha : ask x = true) (hc : cnt x < s) : made x = D x := by
  rw [h x hx, ha, decide_eq_true hc]
  simp
/-- what is inside, of the class -/
def sm_ci (ins pr : Nat → Int32) (pg : Nat → Nat → Nat) : Prop := (∀ x : Nat, x < 16 → sb_t (ins x) x = false) ∧ (∀ x k : Nat, x < 16 → (k : Int) < (pr x).toInt → sb_t (ins x) (pg x k) = true ∧ pg x k < 16) ∧ ∀ y x i : Nat, y < 16 → x < 16 → i < 16 → sb_t (ins y) x = true → sb_t (ins x) i = true → sb_t (ins y) i = true
def sm_pc (f : Nat → Int32) (g : Nat) : Int := (f g).toInt
def sm_ik (ins : Nat → Int32) (x : Nat) : Nat := sb_c (ins x)
theorem sm_cir {ins pr : Nat → Int32} {pg : Nat → Nat → Nat} (h : sm_ci ins pr pg) : sm_rk (sm_ik ins) (sm_pc pr) pg := by
  intro g hg
  refine ⟨?_, fun k hk => ?_⟩
  · have h1 := sb_c15 hg (h.1 g hg)
    unfold sm_ik
    omega
  · obtain ⟨h1, h2⟩ := h.2.1 g k hg hk
    refine ⟨h2, ?_⟩
    exact sb_qs (p := sb_t (ins (pg g k))) (q := sb_t (ins g)) (y := pg g k) h1 (h.1 _ h2) 16 h2 (fun i hi hp => h.2.2 g (pg g k) i hg h2 hi h1 hp)
def sm_ak (ins : Nat → Int32) (g x : Nat) : Bool := sb_t (ins g) x || decide (x = g)
theorem sm_cia {ins pr : Nat → Int32} {pg : Nat → Nat → Nat} (h : sm_ci ins pr pg) {g x k : Nat} (hg : g < 16) (hx : x < 16) (ha : sm_ak ins g x = true) (hk : (k : Int) < (pr x).toInt) : sm_ak ins g (pg x k) = true := by
  obtain ⟨h1, h2⟩ := h.2.1 x k hx hk
  unfold sm_ak at ha ⊢
  by_cases hxg : x = g
  · subst hxg
    rw [h1]; rfl
  · rw [decide_eq_false hxg, Bool.or_false] at ha
    rw [h.2.2 g x (pg x k) hg hx h2 ha h1]; rfl
/-- the rule's answer by what is known so far -/
theorem sm_BV {V : (Nat → Bool) → Nat → Bool} {ins pr : Nat → Int32} {pg : Nat → Nat → Nat} {made : Nat → Bool} {g s e : Nat} (hV : sm_lo V (sm_pc pr) pg) (hc : sm_ci ins pr pg) (hg : g < 16) (he : e < 16) (h : sm_B made (sm_ak ins g) (sm_ik ins) (sm_D V 16) s e) (ha : sm_ak ins g e = true) (hs : sm_ik ins e = s) : V made e = sm_D V 16 e := by
  refine sm_DV hV (sm_cir hc) he made (fun k hk => ?_)
  obtain ⟨h1, h2⟩ := ((sm_cir hc) e he).2 k hk
  exact sm_BE h h1 (sm_cia hc hg he ha hk) (by omega)
/-! the reference goes in rounds -/
def sm_mb (f : Nat → Int32) (p : Nat) : Bool := decide ((f p).toInt = 1)
def sm_K (kn md : Nat → Int32) (D : Nat → Bool) (rk : Nat → Nat) (r g : Nat) : Prop := (∀ x : Nat, x < 16 → (kn x).toInt = 1 → sm_mb md x = D x) ∧ ∀ x : Nat, x < 16 → (rk x < r ∨ (x < g ∧ rk x ≤ r)) → (kn x).toInt = 1
theorem sm_K0 {kn md : Nat → Int32} {D : Nat → Bool} {rk : Nat → Nat} {r g : Nat} (h : ∀ x : Nat, x < 16 → (kn x).toInt = 0) (hr : r = 0) (hg : g = 0) : sm_K kn md D rk r g :=
  ⟨fun x hx h1 => by rw [h x hx] at h1; omega, fun x hx h1 => by omega⟩
theorem sm_KN {kn md : Nat → Int32} {D : Nat → Bool} {rk : Nat → Nat} {r g r' g' : Nat} (h : sm_K kn md D rk r g) (hg : 16 ≤ g) (hr : r' = r + 1) (hg' : g' = 0) : sm_K kn md D rk r' g' :=
  ⟨h.1, fun x hx h1 => h.2 x hx (by omega)⟩
/-- one good of a round -/
theorem sm_KS {kn md kn' md' : Nat → Int32} {V : (Nat → Bool) → Nat → Bool} {rk : Nat → Nat} {pc : Nat → Int} {pg : Nat → Nat → Nat} {r g g' : Nat} {y z : Int32} (hV : sm_lo V pc pg) (hr : sm_rk rk pc pg) (h : sm_K kn md (sm_D V 16) rk r g) (hg : g < 16) (hg' : g' = g + 1)
    (hh : ((∀ k : Nat, (k : Int) < pc g → (kn (pg g k)).toInt = 1) ∧ kn' = upd kn g y ∧ y.toInt = 1 ∧ md' = upd md g z ∧ z.toInt = sp_i (V (sm_mb md) g)) ∨ (((kn g).toInt = 1 ∨ ∃ k : Nat, (k : Int) < pc g ∧ (kn (pg g k)).toInt ≠ 1) ∧ kn' = kn ∧ md' = md)) : sm_K kn' md' (sm_D V 16) rk r g' := by
  subst hg'
  obtain ⟨h1, h2⟩ := h
  rcases hh with ⟨a1, a2, a3, a4, a5⟩ | ⟨a1, a2, a3⟩
  · subst a2 a4
    have hD : V (sm_mb md) g = sm_D V 16 g := sm_DV hV hr hg _ (fun k hk => h1 _ ((hr g hg).2 k hk).1 (a1 k hk))
    refine ⟨fun x hx hk => ?_, fun x hx hx2 => ?_⟩
    · by_cases hxg : x = g
      · subst hxg
        unfold sm_mb
        rw [sf_uu, if_pos rfl, a5, ← hD]
        generalize V (sm_mb md) x = b9
        cases b9 <;> rfl
      · rw [sf_uu, if_neg hxg] at hk
        have h3 := h1 x hx hk
        unfold sm_mb at h3 ⊢
        rw [sf_uu, if_neg hxg]
        exact h3
    · rw [sf_uu]
      split
      · exact a3
      · exact h2 x hx (by omega)
  · rw [a2, a3]
    refine ⟨h1, fun x hx hx2 => ?_⟩
    by_cases hxg : x = g
    · subst hxg
      rcases a1 with a1 | ⟨k, hk, hn⟩
      · exact a1
      · obtain ⟨b1, b2⟩ := (hr x hg).2 k hk
        exact absurd (h2 _ b1 (by omega)) hn
    · exact h2 x hx (by omega)
theorem sm_KE {kn md : Nat → Int32} {D : Nat → Bool} {rk : Nat → Nat} {r g x : Nat} (h : sm_K kn md D rk r g) (hx : x < 16) (hr : rk x < r) : sm_mb md x = D x := h.1 x hx (h.2 x hx (Or.inl hr))
/-! what the rows give -/
def sm_g2 (g : Nat → Nat → Int32) (i k : Nat) : Nat := (g i k).toInt.toNat
def sm_f5 (f : Nat → Int32) (i k : Nat) : Nat := (f (5 * i + k)).toInt.toNat
def sm_gv (g : Nat → Nat → Int32) (i k : Nat) : Int := (g i k).toInt
def sm_fv (f : Nat → Int32) (i k : Nat) : Int := (f (5 * i + k)).toInt
def sm_lg (z : Int32) (g : Nat → Nat → Int32) (i k : Nat) : Bool := sb_t z (g i k).toInt.toNat
def sm_lf (z : Int32) (f : Nat → Int32) (i k : Nat) : Bool := sb_t z (f (5 * i + k)).toInt.toNat
def sm_cl (B : Int → Int) (g : Nat) : Int := B (g : Int)
def sm_rg (rk : Nat → Int32) (j : Nat) : Int := if (rk j).toInt = -1 then -1 else (j : Int)
def sm_rj (rk : Nat → Int32) (j : Nat) : Int := if (rk j).toInt < 0 then -1 else (j : Int)
def sm_rc (p rk : Nat → Int32) (h : Int) : Int := sr_up p (sm_rg rk) 6 h
def sm_rm (p rk : Nat → Int32) (h : Int) : Int := sr_up p (sm_rj rk) (h + 1).toNat h
def sm_ah (f : Nat → Int32) (h : Int) : Int := (f h.toNat).toInt
theorem sm_foT {pc : Nat → Int} {pg : Nat → Nat → Nat} {ln : Nat → Nat → Bool} {m : Nat → Bool} {g k : Nat} (h : sp_i (ln g k) ≠ 1 ∨ (0 < pc (pg g k) ∧ sp_i (m (pg g k)) ≠ 1)) : sm_fo pc pg ln m g k = true := by
  unfold sm_fo
  rcases h with h | ⟨h1, h2⟩
  · rw [sp_iF h]; rfl
  · rw [decide_eq_true h1, sp_iF h2]; simp
theorem sm_foF {pc : Nat → Int} {pg : Nat → Nat → Nat} {ln : Nat → Nat → Bool} {m : Nat → Bool} {g k : Nat} (h : sp_i (ln g k) = 1 ∧ (pc (pg g k) ≤ 0 ∨ sp_i (m (pg g k)) = 1)) : sm_fo pc pg ln m g k = false := by
  unfold sm_fo
  rw [sp_iT h.1]
  rcases h.2 with h1 | h1
  · rw [decide_eq_false (by omega)]; rfl
  · rw [sp_iT h1]; simp
theorem sm_Az {pv : Nat → Nat → Int} {g n : Nat} (h : n = 0) : sm_A pv g n = 0 := by subst h; rfl
theorem sm_As {pv : Nat → Nat → Int} {g n k : Nat} (h : k = n + 1) : sm_A pv g k = sm_A pv g n + pv g n := by subst h; rfl
theorem sm_Fz {fo : Nat → Bool} {pv : Nat → Nat → Int} {g n : Nat} (h : n = 0) : sm_F fo pv g n = 0 := by subst h; rfl
theorem sm_FT {fo : Nat → Bool} {pv : Nat → Nat → Int} {g n k : Nat} (h : k = n + 1) (hf : fo n = true) : sm_F fo pv g k = sm_F fo pv g n + pv g n := by
  subst h
  show sm_F fo pv g n + cond (fo n) _ 0 = _
  rw [hf]; rfl
theorem sm_FF {fo : Nat → Bool} {pv : Nat → Nat → Int} {g n k : Nat} (h : k = n + 1) (hf : fo n = false) : sm_F fo pv g k = sm_F fo pv g n := by
  subst h
  show sm_F fo pv g n + cond (fo n) _ 0 = _
  rw [hf]; exact Int.add_zero _
theorem sm_Cz {fo : Nat → Bool} {pg : Nat → Nat → Nat} {cls : Nat → Int} {g n : Nat} (h : n = 0) : sm_C fo pg cls g n = true := by subst h; rfl
theorem sm_CT {fo : Nat → Bool} {pg : Nat → Nat → Nat} {cls : Nat → Int} {g n k : Nat} (h : k = n + 1) (hf : fo n = false ∨ cls (pg g n) ≠ cls g) : sm_C fo pg cls g k = sm_C fo pg cls g n := by
  subst h
  show (sm_C fo pg cls g n && !(fo n && decide (cls (pg g n) = cls g))) = _
  rcases hf with hf | hf
  · rw [hf]; simp
  · rw [decide_eq_false hf]; simp
theorem sm_CF {fo : Nat → Bool} {pg : Nat → Nat → Nat} {cls : Nat → Int} {g n k : Nat} (h : k = n + 1) (hf : fo n = true ∧ cls (pg g n) = cls g) : sm_C fo pg cls g k = false := by
  subst h
  show (sm_C fo pg cls g n && !(fo n && decide (cls (pg g n) = cls g))) = _
  rw [hf.1, decide_eq_true hf.2]; simp
/-- once broken it stays so -/
theorem sm_CX {fo : Nat → Bool} {pg : Nat → Nat → Nat} {cls : Nat → Int} {g n : Nat} (h : sm_C fo pg cls g n = false) : ∀ j : Nat, sm_C fo pg cls g (n + j) = false
  | 0 => h
  | j + 1 => by
    show (sm_C fo pg cls g (n + j) && _) = false
    rw [sm_CX h j]; rfl
theorem sm_FA {fo : Nat → Bool} {pv : Nat → Nat → Int} {g : Nat} : ∀ n : Nat, (∀ k, k < n → 0 ≤ pv g k ∧ pv g k ≤ 1000000) → 0 ≤ sm_F fo pv g n ∧ sm_F fo pv g n ≤ sm_A pv g n ∧ sm_A pv g n ≤ 1000000 * (n : Int)
  | 0, _ => ⟨Int.le_refl _, Int.le_refl _, Int.le_refl _⟩
  | n + 1, h => by
    have h1 := sm_FA (fo := fo) (pv := pv) (g := g) n (fun k hk => h k (by omega))
    have h2 := h n (by omega)
    have h3 := sm_As (pv := pv) (g := g) (n := n) rfl
    cases hf : fo n
    · rw [sm_FF rfl hf]; omega
    · rw [sm_FT rfl hf]; omega
theorem sm_VN {pc : Nat → Int} {pg : Nat → Nat → Nat} {pv : Nat → Nat → Int} {ln : Nat → Nat → Bool} {cls : Nat → Int} {rh rk rl : Int → Int} {m : Nat → Bool} {g : Nat} (h : rh (cls g) < 0 ∨ pc g ≤ 0) : sm_V pc pg pv ln cls rh rk rl m g = false := if_pos h
theorem sm_VC {pc : Nat → Int} {pg : Nat → Nat → Nat} {pv : Nat → Nat → Int} {ln : Nat → Nat → Bool} {cls : Nat → Int} {rh rk rl : Int → Int} {m : Nat → Bool} {g n : Nat} (h : ¬ (rh (cls g) < 0 ∨ pc g ≤ 0)) (h2 : rk (rh (cls g)) = 0) (hn : n = (pc g).toNat) : sm_V pc pg pv ln cls rh rk rl m g = sm_C (sm_fo pc pg ln m g) pg cls g n := by
  subst hn
  unfold sm_V
  rw [if_neg h, if_pos h2]
theorem sm_VS {pc : Nat → Int} {pg : Nat → Nat → Nat} {pv : Nat → Nat → Int} {ln : Nat → Nat → Bool} {cls : Nat → Int} {rh rk rl : Int → Int} {m : Nat → Bool} {g n : Nat} {lim : Int} (h : ¬ (rh (cls g) < 0 ∨ pc g ≤ 0)) (h2 : rk (rh (cls g)) ≠ 0) (hn : n = (pc g).toNat) (hl : lim = rl (rh (cls g))) : sm_V pc pg pv ln cls rh rk rl m g = decide (1000 * sm_F (sm_fo pc pg ln m g) pv g n ≤ lim * sm_A pv g n) := by
  subst hn hl
  unfold sm_V
  rw [if_neg h, if_neg h2]
theorem sm_cle {B : Int → Int} {g : Int} (h : 0 ≤ g) : B g = sm_cl B g.toNat := by
  unfold sm_cl
  rw [show ((g.toNat : Nat) : Int) = g by omega]
theorem sm_Vlo {pc : Nat → Int} {pg : Nat → Nat → Nat} {pv : Nat → Nat → Int} {ln : Nat → Nat → Bool} {cls : Nat → Int} {rh rk rl : Int → Int} : sm_lo (sm_V pc pg pv ln cls rh rk rl) pc pg := fun _ _ _ _ h => sm_VE rfl rfl rfl (fun _ => ⟨rfl, rfl⟩) (fun k hk => ⟨rfl, rfl, rfl, rfl, rfl, h k hk⟩)
