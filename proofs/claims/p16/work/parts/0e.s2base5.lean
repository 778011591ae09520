/-! Notes that count and hold; the greatest amount; the best heading. -/
def sp_x (f : Nat → Int) : Nat → Int
  | 0 => 0
  | n + 1 => max (sp_x f n) (f n)
theorem sp_xz {f : Nat → Int} {k : Nat} (h : k = 0) : sp_x f k = 0 := by subst h; rfl
theorem sp_xs {f : Nat → Int} {k n : Nat} (h : k = n + 1) : sp_x f k = max (sp_x f n) (f n) := by subst h; rfl
theorem sp_xc {f f' : Nat → Int} : ∀ n : Nat, (∀ i, i < n → f i = f' i) → sp_x f n = sp_x f' n
  | 0, _ => rfl
  | n + 1, h => by
    show max (sp_x f n) (f n) = max (sp_x f' n) (f' n)
    rw [h n (by omega), sp_xc n (fun i hi => h i (by omega))]
def sp_A (u hd : Nat → Bool) : Nat → Bool
  | 0 => true
  | n + 1 => sp_A u hd n && (!u n || hd n)
def sp_M (u : Nat → Bool) (a : Nat → Int) : Nat → Int
  | 0 => 0
  | n + 1 => cond (u n) (max (sp_M u a n) (a n)) (sp_M u a n)
theorem sp_Az {u hd : Nat → Bool} {k : Nat} (h : k = 0) : sp_A u hd k = true := by subst h; rfl
theorem sp_Mz {u : Nat → Bool} {a : Nat → Int} {k : Nat} (h : k = 0) : sp_M u a k = 0 := by subst h; rfl
theorem sp_As {u hd : Nat → Bool} {n k : Nat} (h : k = n + 1) : sp_A u hd k = (sp_A u hd n && (!u n || hd n)) := by subst h; rfl
theorem sp_AT {u hd : Nat → Bool} {n k : Nat} (h : k = n + 1) (h2 : u n = false ∨ hd n = true) : sp_A u hd k = sp_A u hd n := by
  rw [sp_As h]
  rcases h2 with h2 | h2 <;> rw [h2] <;> simp
theorem sp_AF {u hd : Nat → Bool} {n k : Nat} (h : k = n + 1) (h1 : u n = true) (h2 : hd n = false) : sp_A u hd k = false := by
  rw [sp_As h, h1, h2]
  simp
theorem sp_MT {u : Nat → Bool} {a : Nat → Int} {n k : Nat} (h : k = n + 1) (h1 : u n = true) : sp_M u a k = max (sp_M u a n) (a n) := by
  subst h
  show cond (u n) _ _ = _
  rw [h1]
  rfl
theorem sp_MF {u : Nat → Bool} {a : Nat → Int} {n k : Nat} (h : k = n + 1) (h1 : u n = false) : sp_M u a k = sp_M u a n := by
  subst h
  show cond (u n) _ _ = _
  rw [h1]
  rfl
theorem sp_Ac {u u' hd hd' : Nat → Bool} : ∀ n : Nat, (∀ i, i < n → u i = u' i) → (∀ i, i < n → hd i = hd' i) → sp_A u hd n = sp_A u' hd' n
  | 0, _, _ => rfl
  | n + 1, h, g => by
    show (sp_A u hd n && (!u n || hd n)) = (sp_A u' hd' n && (!u' n || hd' n))
    rw [h n (by omega), g n (by omega), sp_Ac n (fun i hi => h i (by omega)) (fun i hi => g i (by omega))]
theorem sp_Mc {u u' : Nat → Bool} {a a' : Nat → Int} : ∀ n : Nat, (∀ i, i < n → u i = u' i) → (∀ i, i < n → a i = a' i) → sp_M u a n = sp_M u' a' n
  | 0, _, _ => rfl
  | n + 1, h, g => by
    show cond (u n) (max (sp_M u a n) (a n)) (sp_M u a n) = cond (u' n) (max (sp_M u' a' n) (a' n)) (sp_M u' a' n)
    rw [h n (by omega), g n (by omega), sp_Mc n (fun i hi => h i (by omega)) (fun i hi => g i (by omega))]
theorem sp_Ao {u v t hd : Nat → Bool} : ∀ n : Nat, (∀ i, i < n → t i = (u i || v i)) → sp_A t hd n = (sp_A u hd n && sp_A v hd n)
  | 0, _ => rfl
  | n + 1, h => by
    show (sp_A t hd n && (!t n || hd n)) = ((sp_A u hd n && (!u n || hd n)) && (sp_A v hd n && (!v n || hd n)))
    rw [h n (by omega), sp_Ao n (fun i hi => h i (by omega))]
    cases sp_A u hd n <;> cases sp_A v hd n <;> cases u n <;> cases v n <;> cases hd n <;> rfl
theorem sp_Mo {u v t : Nat → Bool} {a : Nat → Int} : ∀ n : Nat, (∀ i, i < n → t i = (u i || v i)) → sp_M t a n = max (sp_M u a n) (sp_M v a n)
  | 0, _ => rfl
  | n + 1, h => by
    have ih := sp_Mo (u := u) (v := v) (t := t) (a := a) n (fun i hi => h i (by omega))
    have ht := h n (by omega)
    cases hu : u n <;> cases hv : v n <;> rw [hu, hv] at ht
    · rw [sp_MF rfl ht, sp_MF rfl hu, sp_MF rfl hv, ih]
    · rw [sp_MT rfl ht, sp_MF rfl hu, sp_MT rfl hv, ih]
      omega
    · rw [sp_MT rfl ht, sp_MT rfl hu, sp_MF rfl hv, ih]
      omega
    · rw [sp_MT rfl ht, sp_MT rfl hu, sp_MT rfl hv, ih]
      omega
def sp_ag (g : Nat → Nat → Int32) (i j : Nat) : Int := (g i j).toInt
def sp_aa (f : Nat → Int32) (i j : Nat) : Int := (f (8 * i + j)).toInt
def sp_an (F : Nat → Int32) (am : Nat → Int) (n : Nat) : Int := am (F n).toInt.toNat
def sp_h (K F A : Nat → Int32) (am : Nat → Int) (n : Nat) : Bool := decide (((K n).toInt = 1 ∧ sp_an F am n < (A n).toInt) ∨ ((K n).toInt ≠ 1 ∧ (A n).toInt ≤ sp_an F am n ∧ ((K n).toInt = 2 → sp_x am 4 ≤ sp_an F am n)))
theorem sp_ht {K F A : Nat → Int32} {am : Nat → Int} {n : Nat} (h : ((K n).toInt = 1 ∧ sp_an F am n < (A n).toInt) ∨ ((K n).toInt ≠ 1 ∧ (A n).toInt ≤ sp_an F am n ∧ ((K n).toInt = 2 → sp_x am 4 ≤ sp_an F am n))) : sp_h K F A am n = true := decide_eq_true h
theorem sp_hf {K F A : Nat → Int32} {am : Nat → Int} {n : Nat} (h : ¬ (((K n).toInt = 1 ∧ sp_an F am n < (A n).toInt) ∨ ((K n).toInt ≠ 1 ∧ (A n).toInt ≤ sp_an F am n ∧ ((K n).toInt = 2 → sp_x am 4 ≤ sp_an F am n)))) : sp_h K F A am n = false := decide_eq_false h
def sp_o (Hd : Nat → Int32) (h : Int) (n : Nat) : Bool := decide ((Hd n).toInt = h)
theorem sp_ot {Hd : Nat → Int32} {h : Int} {n : Nat} (e : (Hd n).toInt = h) : sp_o Hd h n = true := decide_eq_true e
theorem sp_of {Hd : Nat → Int32} {h : Int} {n : Nat} (e : (Hd n).toInt ≠ h) : sp_o Hd h n = false := decide_eq_false e
def sp_is (o : Int) (j : Nat) : Int := if (j : Int) = o then 0 else -1
theorem sp_isT {o : Int} {j : Nat} (h : (j : Int) = o) : sp_is o j = 0 := if_pos h
theorem sp_isF {o : Int} {j : Nat} (h : (j : Int) ≠ o) : sp_is o j = -1 := if_neg h
def sp_U (p : Nat → Int32) (h o : Int) : Int := sr_up p (sp_is o) (h + 1).toNat h
def sp_u (p Hd : Nat → Int32) (h : Int) (n : Nat) : Bool := decide (0 ≤ sp_U p h (Hd n).toInt)
theorem sp_ut {p Hd : Nat → Int32} {h : Int} {n : Nat} (e : 0 ≤ sp_U p h (Hd n).toInt) : sp_u p Hd h n = true := decide_eq_true e
theorem sp_uf {p Hd : Nat → Int32} {h : Int} {n : Nat} (e : ¬ 0 ≤ sp_U p h (Hd n).toInt) : sp_u p Hd h n = false := decide_eq_false e
def sp_k (K : Nat → Int32) (u : Nat → Bool) (n : Nat) : Bool := decide ((K n).toInt = 2) && u n
theorem sp_kt {K : Nat → Int32} {u : Nat → Bool} {n : Nat} (e : (K n).toInt = 2) (h : u n = true) : sp_k K u n = true := by
  unfold sp_k
  rw [decide_eq_true e, h]
  rfl
theorem sp_kf {K : Nat → Int32} {u : Nat → Bool} {n : Nat} (e : (K n).toInt ≠ 2 ∨ u n = false) : sp_k K u n = false := by
  unfold sp_k
  rcases e with e | e
  · rw [decide_eq_false e]
    rfl
  · rw [e]
    simp
def sp_fi (p Hd K F A : Nat → Int32) (am : Nat → Int) (N : Nat) (h : Nat) : Int := sp_i (sp_A (sp_u p Hd h) (sp_h K F A am) N)
def sp_sh (p Hd K F : Nat → Int32) (am : Nat → Int) (N : Nat) (h : Nat) : Int := sp_M (sp_k K (sp_u p Hd h)) (sp_an F am) N
def sp_fo (Hd K F A : Nat → Int32) (am : Nat → Int) (N : Nat) (h : Nat) : Int := sp_i (sp_A (sp_o Hd h) (sp_h K F A am) N)
def sp_so (Hd K F : Nat → Int32) (am : Nat → Int) (N : Nat) (h : Nat) : Int := sp_M (sp_k K (sp_o Hd h)) (sp_an F am) N
/-! the class's own notes -/
def sj_O (fit sh Hd K F A : Nat → Int32) (am : Nat → Int) (hn : Int) (n : Nat) : Prop := ∀ h : Nat, (h : Int) < hn → (fit h).toInt = sp_fo Hd K F A am n h ∧ (sh h).toInt = sp_so Hd K F am n h
def sj_1 (fit sh : Nat → Int32) (c : Int) : Prop := ∀ h : Nat, (h : Int) < c → (fit h).toInt = 1 ∧ (sh h).toInt = 0
theorem sj_1s {fit sh fit' sh' : Nat → Int32} {c c' : Int} {i i' v v' : Int32} (h : sj_1 fit sh c) (h0 : 0 ≤ c) (hc : c' = c + 1) (hf : fit' = upd fit i.toInt.toNat v) (hs : sh' = upd sh i'.toInt.toNat v') (hi : i.toInt = c) (hi' : i'.toInt = c) (hv : v.toInt = 1) (hv' : v'.toInt = 0) : sj_1 fit' sh' c' := by
  intro x hx
  rw [hf, hs, sf_uu, sf_uu]
  by_cases hxc : x = c.toNat
  · rw [if_pos (by omega), if_pos (by omega)]
    exact ⟨hv, hv'⟩
  · rw [if_neg (by omega), if_neg (by omega)]
    exact h x (by omega)
theorem sj_O0 {fit sh Hd K F A : Nat → Int32} {am : Nat → Int} {hn c : Int} {n : Nat} (h : sj_1 fit sh c) (hc : hn ≤ c) (hz : n = 0) : sj_O fit sh Hd K F A am hn n := by
  intro x hx
  unfold sp_fo sp_so
  rw [sp_Az hz, sp_Mz hz]
  exact h x (by omega)
def sj_hf (fit fit' : Nat → Int32) (q : Nat) (b : Bool) : Prop := (b = true ∧ fit' = fit) ∨ (b = false ∧ ∃ z : Int32, z.toInt = 0 ∧ fit' = upd fit q z)
def sj_hs (sh sh' : Nat → Int32) (q : Nat) (k a : Int) : Prop := (k ≠ 2 ∧ sh' = sh) ∨ (k = 2 ∧ ∃ z : Int32, z.toInt = max (sh q).toInt a ∧ sh' = upd sh q z)
theorem sj_OS {fit sh fit' sh' Hd K F A : Nat → Int32} {am : Nat → Int} {hn : Int} {n k q : Nat} (h : sj_O fit sh Hd K F A am hn n) (hk : k = n + 1) (hq : (q : Int) = (Hd n).toInt) (hf : sj_hf fit fit' q (sp_h K F A am n)) (hs : sj_hs sh sh' q (K n).toInt (sp_an F am n)) : sj_O fit' sh' Hd K F A am hn k := by
  intro x hx
  obtain ⟨h1, h2⟩ := h x hx
  constructor
  · unfold sp_fo at h1 ⊢
    rcases hf with ⟨b1, b2⟩ | ⟨b1, z, b2, b3⟩
    · rw [b2, sp_AT hk (Or.inr b1), h1]
    · rw [b3, sf_uu]
      split
      · rw [sp_AF hk (sp_ot (by omega)) b1, b2]
        rfl
      · rw [sp_AT hk (Or.inl (sp_of (by omega))), h1]
  · unfold sp_so at h2 ⊢
    rcases hs with ⟨b1, b2⟩ | ⟨b1, z, b2, b3⟩
    · rw [b2, sp_MF hk (sp_kf (Or.inl b1)), h2]
    · rw [b3, sf_uu]
      split
      · rename_i hxq
        rw [sp_MT hk (sp_kt b1 (sp_ot (by omega))), b2, ← h2, hxq]
      · rw [sp_MF hk (sp_kf (Or.inr (sp_of (by omega)))), h2]
/-! what comes from the parents -/
theorem sr_upG {p : Nat → Int32} {g : Nat → Int} {n : Int} (hp : ∀ i : Nat, (i : Int) < n → (p i).toInt < (i : Int)) : ∀ (f f' : Nat) (k : Int), k < n → k < (f : Int) → k < (f' : Int) → sr_up p g f k = sr_up p g f' k := by
  intro f
  induction f with
  | zero =>
    intro f' k _ hk _
    rw [sr_upN (by omega), sr_upN (by omega)]
  | succ f ih =>
    intro f' k hn hk hk'
    by_cases h : 0 ≤ k
    · have e2 : f' = (f' - 1) + 1 := by omega
      have hpk := hp k.toNat (by omega)
      by_cases hq : 0 ≤ g k.toNat
      · rw [sr_upH rfl h hq, sr_upH e2 h hq]
      · rw [sr_upS rfl h (by omega), sr_upS e2 h (by omega)]
        exact ih (f' - 1) _ (by omega) (by omega) (by omega)
    · rw [sr_upN (by omega), sr_upN (by omega)]
theorem sr_upC {p p' : Nat → Int32} {g g' : Nat → Int} {n : Int} (hp : ∀ i : Nat, (i : Int) < n → (p i).toInt < (i : Int)) (he : ∀ i : Nat, (i : Int) < n → p i = p' i) (hg : ∀ i : Nat, (i : Int) < n → g i = g' i) : ∀ (f : Nat) (k : Int), k < n → sr_up p g f k = sr_up p' g' f k := by
  intro f
  induction f with
  | zero => intro k _; rfl
  | succ f ih =>
    intro k hk
    by_cases h : 0 ≤ k
    · have hgk := hg k.toNat (by omega)
      by_cases hq : 0 ≤ g k.toNat
      · rw [sr_upH rfl h hq, sr_upH rfl h (by rw [← hgk]; exact hq), hgk]
      · have hpk := hp k.toNat (by omega)
        rw [sr_upS rfl h (by omega), sr_upS rfl h (by rw [← hgk]; omega), he k.toNat (by omega)]
        rw [he k.toNat (by omega)] at hpk
        exact ih _ (by omega)
    · rw [sr_upN (by omega), sr_upN (by omega)]
/-- one step up -/
theorem sp_Uup {p : Nat → Int32} {n h q o : Int} (hp : ∀ i : Nat, (i : Int) < n → (p i).toInt < (i : Int)) (h0 : 0 ≤ h) (h1 : h < n) (hq : q = (p h.toNat).toInt) (hne : h ≠ o) : sp_U p h o = sp_U p q o := by
  unfold sp_U
  have hpk := hp h.toNat (by omega)
  rw [sr_upS (f0 := h.toNat) (by omega) h0 (by rw [sp_isF (by omega)]; omega), ← hq]
  exact sr_upG hp _ _ _ (by omega) (by omega) (by omega)
theorem sp_Us {p : Nat → Int32} {h : Int} (h0 : 0 ≤ h) : sp_U p h h = 0 := by
  unfold sp_U
  rw [sr_upH (f0 := h.toNat) (by omega) h0 (by rw [sp_isT (by omega)]; omega), sp_isT (by omega)]
theorem sp_Un {p : Nat → Int32} {h o : Int} (h0 : h < 0) : sp_U p h o = -1 := by
  unfold sp_U
  exact sr_upN h0
theorem sp_uo {p Hd : Nat → Int32} {n h q : Int} (hp : ∀ i : Nat, (i : Int) < n → (p i).toInt < (i : Int)) (h0 : 0 ≤ h) (h1 : h < n) (hq : q = (p h.toNat).toInt) (i : Nat) : sp_u p Hd h i = (sp_o Hd h i || sp_u p Hd q i) := by
  by_cases e : (Hd i).toInt = h
  · rw [sp_ot e, sp_ut (by rw [e, sp_Us h0]; omega)]
    rfl
  · rw [sp_of e]
    unfold sp_u
    rw [sp_Uup hp h0 h1 hq (fun z => e z.symm)]
    rfl
theorem sp_ko {K : Nat → Int32} {t u v : Nat → Bool} {i : Nat} (h : t i = (u i || v i)) : sp_k K t i = (sp_k K u i || sp_k K v i) := by
  unfold sp_k
  rw [h]
  cases decide ((K i).toInt = 2) <;> simp
theorem sp_un {p Hd : Nat → Int32} {q : Int} (h : q < 0) (i : Nat) : sp_u p Hd q i = false := sp_uf (by rw [sp_Un h]; omega)
theorem sp_An {u hd : Nat → Bool} : ∀ n : Nat, (∀ i, i < n → u i = false) → sp_A u hd n = true
  | 0, _ => rfl
  | n + 1, h => by
    rw [sp_AT rfl (Or.inl (h n (by omega)))]
    exact sp_An n (fun i hi => h i (by omega))
theorem sp_Mn {u : Nat → Bool} {a : Nat → Int} : ∀ n : Nat, (∀ i, i < n → u i = false) → sp_M u a n = 0
  | 0, _ => rfl
  | n + 1, h => by
    rw [sp_MF rfl (h n (by omega))]
    exact sp_Mn n (fun i hi => h i (by omega))
theorem sp_M0 {u : Nat → Bool} {a : Nat → Int} : ∀ n : Nat, 0 ≤ sp_M u a n
  | 0 => Int.le_refl _
  | n + 1 => by
    have ih := sp_M0 (u := u) (a := a) n
    cases h : u n
    · rw [sp_MF rfl h]; exact ih
    · rw [sp_MT rfl h]; omega
def sj_P (fit sh p Hd K F A : Nat → Int32) (am : Nat → Int) (N : Nat) (hn c : Int) : Prop := ∀ h : Nat, (h : Int) < hn → ((h : Int) < c → (fit h).toInt = sp_fi p Hd K F A am N h ∧ (sh h).toInt = sp_sh p Hd K F am N h) ∧ (c ≤ (h : Int) → (fit h).toInt = sp_fo Hd K F A am N h ∧ (sh h).toInt = sp_so Hd K F am N h)
theorem sj_P0 {fit sh p Hd K F A : Nat → Int32} {am : Nat → Int} {N : Nat} {hn c : Int} (h : sj_O fit sh Hd K F A am hn N) (hc : c = 0) : sj_P fit sh p Hd K F A am N hn c :=
  fun x hx => ⟨fun h1 => absurd h1 (by omega), fun _ => h x hx⟩
def sj_in (fit sh fit' sh' : Nat → Int32) (n : Nat) (q : Int) : Prop := (q = -1 ∧ fit' = fit ∧ sh' = sh) ∨ (0 ≤ q ∧ ∃ y z : Int32, fit' = upd fit n y ∧ sh' = upd sh n z ∧ ((y.toInt = 1 ∧ (fit n).toInt = 1 ∧ (fit q.toNat).toInt = 1) ∨ (y.toInt = 0 ∧ ((fit n).toInt ≠ 1 ∨ (fit q.toNat).toInt ≠ 1))) ∧ z.toInt = max (sh n).toInt (sh q.toNat).toInt)
theorem sj_PS {fit sh fit' sh' p Hd K F A : Nat → Int32} {am : Nat → Int} {N n : Nat} {hn c c' q : Int} (h : sj_P fit sh p Hd K F A am N hn c) (hp : ∀ i : Nat, (i : Int) < hn → (p i).toInt < (i : Int)) (hc : c = (n : Int)) (hc' : c' = c + 1) (hcn : c < hn) (hq : q = (p n).toInt) (hi : sj_in fit sh fit' sh' n q) : sj_P fit' sh' p Hd K F A am N hn c' := by
  have hu : ∀ i : Nat, sp_u p Hd (n : Int) i = (sp_o Hd (n : Int) i || sp_u p Hd q i) := fun i => sp_uo hp (by omega) (by omega) (by rw [hq]; rfl) i
  have hpn := hp n (by omega)
  intro x hx
  obtain ⟨h1, h2⟩ := h x hx
  obtain ⟨-, hn2⟩ := h n (by omega)
  obtain ⟨n1, n2⟩ := hn2 (by omega)
  by_cases hxn : x = n
  · subst hxn
    refine ⟨fun _ => ?_, fun h9 => absurd h9 (by omega)⟩
    unfold sp_fi sp_sh
    rw [sp_Ao N (fun i _ => hu i), sp_Mo (u := sp_k K (sp_o Hd (x : Int))) (v := sp_k K (sp_u p Hd q)) N (fun i _ => sp_ko (hu i))]
    unfold sp_fo at n1
    unfold sp_so at n2
    rcases hi with ⟨i1, i2, i3⟩ | ⟨i1, y, z, i2, i3, i4, i5⟩
    · rw [i2, i3, sp_An (u := sp_u p Hd q) N (fun i _ => sp_un (by omega) i), sp_Mn (u := sp_k K (sp_u p Hd q)) N (fun i _ => sp_kf (Or.inr (sp_un (by omega) i)))]
      have h0 := sp_M0 (u := sp_k K (sp_o Hd (x : Int))) (a := sp_an F am) N
      refine ⟨?_, by omega⟩
      rw [n1]
      simp
    · obtain ⟨q1, -⟩ := h q.toNat (by omega)
      obtain ⟨q2, q3⟩ := q1 (by omega)
      unfold sp_fi at q2
      unfold sp_sh at q3
      rw [show ((q.toNat : Nat) : Int) = q by omega] at q2 q3
      rw [i2, i3, sf_uu, sf_uu, if_pos rfl, if_pos rfl]
      refine ⟨?_, by omega⟩
      rcases i4 with ⟨y1, y2, y3⟩ | ⟨y1, y2⟩
      · rw [y1, sp_iT (n1.symm.trans y2), sp_iT (q2.symm.trans y3)]
        rfl
      · rw [y1]
        rcases y2 with y2 | y2
        · rw [sp_iF (fun e => y2 (n1.trans e))]
          rfl
        · rw [sp_iF (fun e => y2 (q2.trans e))]
          simp [sp_i]
  · have he : fit' x = fit x ∧ sh' x = sh x := by
      rcases hi with ⟨i1, i2, i3⟩ | ⟨i1, y, z, i2, i3, i4, i5⟩
      · rw [i2, i3]
        exact ⟨rfl, rfl⟩
      · rw [i2, i3, sf_uu, sf_uu, if_neg hxn, if_neg hxn]
        exact ⟨rfl, rfl⟩
    rw [he.1, he.2]
    exact ⟨fun h9 => h1 (by omega), fun h9 => h2 (by omega)⟩
/-! the best -/
def sj_B (fi de sh : Nat → Int) : Nat → Int
  | 0 => -1
  | n + 1 => if fi n = 1 ∧ (sj_B fi de sh n = -1 ∨ de (sj_B fi de sh n).toNat < de n ∨ (de n = de (sj_B fi de sh n).toNat ∧ sh (sj_B fi de sh n).toNat ≤ sh n)) then (n : Int) else sj_B fi de sh n
theorem sj_Bz {fi de sh : Nat → Int} {k : Nat} (h : k = 0) : sj_B fi de sh k = -1 := by subst h; rfl
theorem sj_BT {fi de sh : Nat → Int} {k n : Nat} {b : Int} (h : k = n + 1) (hb : b = sj_B fi de sh n) (hh : fi n = 1 ∧ (b = -1 ∨ de b.toNat < de n ∨ (de n = de b.toNat ∧ sh b.toNat ≤ sh n))) : sj_B fi de sh k = (n : Int) := by
  subst h hb
  exact if_pos hh
theorem sj_BF {fi de sh : Nat → Int} {k n : Nat} {b : Int} (h : k = n + 1) (hb : b = sj_B fi de sh n) (hh : ¬ (fi n = 1 ∧ (b = -1 ∨ de b.toNat < de n ∨ (de n = de b.toNat ∧ sh b.toNat ≤ sh n)))) : sj_B fi de sh k = b := by
  subst h hb
  exact if_neg hh
theorem sj_Br (fi de sh : Nat → Int) : ∀ n : Nat, -1 ≤ sj_B fi de sh n ∧ sj_B fi de sh n < (n : Int)
  | 0 => ⟨Int.le_refl _, by show (-1 : Int) < 0; decide⟩
  | n + 1 => by
    have ih := sj_Br fi de sh n
    show -1 ≤ (if _ then _ else _) ∧ (if _ then _ else _) < _
    split <;> omega
theorem sj_Bc {fi de sh fi' de' sh' : Nat → Int} : ∀ n : Nat, (∀ i, i < n → fi i = fi' i ∧ de i = de' i ∧ sh i = sh' i) → sj_B fi de sh n = sj_B fi' de' sh' n
  | 0, _ => rfl
  | n + 1, h => by
    have ih := sj_Bc (fi := fi) (de := de) (sh := sh) (fi' := fi') (de' := de') (sh' := sh') n (fun i hi => h i (by omega))
    obtain ⟨h1, h2, h3⟩ := h n (by omega)
    have hr := sj_Br fi de sh n
    by_cases hb : sj_B fi de sh n = -1
    · show (if _ then _ else _) = (if _ then _ else _)
      rw [← ih, h1, hb]
      simp
    · obtain ⟨g1, g2, g3⟩ := h (sj_B fi de sh n).toNat (by omega)
      show (if _ then _ else _) = (if _ then _ else _)
      rw [← ih, h1, h2, h3, g2, g3]
def sp_d (f : Nat → Int32) (n : Nat) : Int := (f n).toInt
theorem sp_anv {F f : Nat → Int32} {i n j : Nat} {v q : Int} (hq : q = (F n).toInt) (hv : v = (f j).toInt) (hj : j = 8 * i + q.toNat) : v = sp_an F (sp_aa f i) n := by
  subst hj hq hv
  rfl
theorem sp_anc {F : Nat → Int32} {g : Nat → Nat → Int32} {i n j : Nat} {v q : Int} (hq : q = (F n).toInt) (hv : v = (g i j).toInt) (hj : j = q.toNat) : v = sp_an F (sp_ag g i) n := by
  subst hj hq hv
  rfl
theorem sp_aav {f : Nat → Int32} {i j k : Nat} {v : Int} (hv : v = (f k).toInt) (hj : k = 8 * i + j) : v = sp_aa f i j := by
  subst hj hv
  rfl
theorem sp_fS {p Hd K F A : Nat → Int32} {am : Nat → Int} {h al al' : Int} {n k : Nat} (hk : k = n + 1) (h0 : al = sp_i (sp_A (sp_u p Hd h) (sp_h K F A am) n)) (hh : (al ≠ 1 ∧ al' = 0) ∨ (al' = al ∧ ¬ 0 ≤ sp_U p h (Hd n).toInt) ∨ (al' = al ∧ sp_i (sp_h K F A am n) = 1) ∨ (al' = 0 ∧ 0 ≤ sp_U p h (Hd n).toInt ∧ sp_i (sp_h K F A am n) ≠ 1)) : al' = sp_i (sp_A (sp_u p Hd h) (sp_h K F A am) k) := by
  rcases hh with ⟨h1, h2⟩ | ⟨h1, h2⟩ | ⟨h1, h2⟩ | ⟨h1, h2, h3⟩
  · rw [sp_As hk, sp_iF (fun e => h1 (h0.trans e)), h2]
    rfl
  · rw [sp_AT hk (Or.inl (sp_uf h2)), h1, h0]
  · rw [sp_AT hk (Or.inr (sp_iT h2)), h1, h0]
  · rw [sp_AF hk (sp_ut h2) (sp_iF h3), h1]
    rfl
theorem sp_mS {p Hd K F : Nat → Int32} {am : Nat → Int} {h mo mo' : Int} {n k : Nat} (hk : k = n + 1) (h0 : mo = sp_M (sp_k K (sp_u p Hd h)) (sp_an F am) n) (hh : (((K n).toInt ≠ 2 ∨ ¬ 0 ≤ sp_U p h (Hd n).toInt) ∧ mo' = mo) ∨ ((K n).toInt = 2 ∧ 0 ≤ sp_U p h (Hd n).toInt ∧ mo' = max mo (sp_an F am n))) : mo' = sp_M (sp_k K (sp_u p Hd h)) (sp_an F am) k := by
  rcases hh with ⟨h1, h2⟩ | ⟨h1, h2, h3⟩
  · rw [sp_MF hk (sp_kf (h1.imp id (fun e => sp_uf e))), h2, h0]
  · rw [sp_MT hk (sp_kt h1 (sp_ut h2)), h3, h0]
theorem sp_fN {p Hd K F A : Nat → Int32} {am : Nat → Int} {x h : Int} {n N : Nat} (h0 : x = sp_i (sp_A (sp_u p Hd h) (sp_h K F A am) n)) (hn : n = N) (hh : 0 ≤ h) : x = sp_fi p Hd K F A am N h.toNat := by
  subst hn
  unfold sp_fi
  rw [show ((h.toNat : Nat) : Int) = h by omega]
  exact h0
theorem sp_sN {p Hd K F : Nat → Int32} {am : Nat → Int} {x h : Int} {n N : Nat} (h0 : x = sp_M (sp_k K (sp_u p Hd h)) (sp_an F am) n) (hn : n = N) (hh : 0 ≤ h) : x = sp_sh p Hd K F am N h.toNat := by
  subst hn
  unfold sp_sh
  rw [show ((h.toNat : Nat) : Int) = h by omega]
  exact h0
theorem sf_JQ {f3 p p' : Nat → Int32} {n n' : Int} (hJ : sf_J f3 p' n) (hq : sf_Q n p p') (hn : n' = n) : sf_J f3 p n' := by
  subst hn
  intro i hi
  rw [hq i hi]
  exact hJ i hi
/-- both sides choose alike -/
theorem sp_BE {p Hd K F A p' Hd' K' F' A' f3 : Nat → Int32} {am am' : Nat → Int} {n m n' m' : Int} (hJ : sf_J f3 p' n) (he : sf_Q n p p') (h1 : sf_Q m Hd Hd') (h2 : sf_Q m K K') (h3 : sf_Q m F F') (h4 : sf_Q m A A') (hF : ∀ i : Nat, (i : Int) < m → 0 ≤ (F' i).toInt ∧ (F' i).toInt ≤ 7) (ha : ∀ j : Nat, j < 8 → am j = am' j) (hn : n' = n) (hm : m' = m) : sj_B (sp_fi p Hd K F A am m'.toNat) (sp_d f3) (sp_sh p Hd K F am m'.toNat) n'.toNat = sj_B (sp_fi p' Hd' K' F' A' am' m.toNat) (sp_d f3) (sp_sh p' Hd' K' F' am' m.toNat) n.toNat := by
  subst hn hm
  have hdec : ∀ i : Nat, (i : Int) < n' → (p i).toInt < (i : Int) := fun i hi => by rw [he i hi]; exact (hJ i hi).2.1
  have hU : ∀ (x : Nat), (x : Int) < n' → ∀ i : Nat, i < m'.toNat → sp_u p Hd x i = sp_u p' Hd' x i := fun x hx i hi => by
    unfold sp_u sp_U
    rw [h1 i (by omega), sr_upC hdec he (fun _ _ => rfl) _ _ hx]
  have hA : ∀ i : Nat, i < m'.toNat → sp_an F am i = sp_an F' am' i := fun i hi => by
    have h9 := hF i (by omega)
    unfold sp_an
    rw [h3 i (by omega), ha _ (by omega)]
  have hX : sp_x am 4 = sp_x am' 4 := sp_xc 4 (fun j hj => ha j (by omega))
  refine sj_Bc _ fun x hx => ⟨?_, rfl, ?_⟩
  · unfold sp_fi
    rw [sp_Ac _ (fun i hi => hU x (by omega) i hi) (fun i hi => ?_)]
    unfold sp_h
    rw [h2 i (by omega), h4 i (by omega), hA i hi, hX]
  · unfold sp_sh
    refine sp_Mc _ (fun i hi => ?_) hA
    unfold sp_k
    rw [h2 i (by omega), hU x (by omega) i hi]
theorem sf_mmax {K : wq_T} {L : wq_L} {S : List wq_V} {w : wq_W} {a b Rc Rs : Nat} {x y : Int32} (h0 : Nat.ble (wq_sm S) 8 = true) (h1 : Nat.ble a Rc = true) (h2 : Nat.ble b Rs = true) (hk : ∀ z : Int32, z.toInt = max x.toInt y.toInt → K L (.inl (.int z) :: S) w a b) : wq_m2 (fun x y => if x < y then y else x) Rc Rs K L (.inl (.int y) :: .inl (.int x) :: S) w a b := by
  show cond (Nat.ble (wq_sm S) 8) _ _
  rw [h0]
  refine sf_le h1 (sf_le h2 (hk _ ?_))
  show (if x < y then y else x).toInt = _
  by_cases h : x < y
  · rw [if_pos h]
    have h9 := Int32.lt_iff_toInt_lt.mp h
    omega
  · rw [if_neg h]
    have h9 : ¬ x.toInt < y.toInt := fun z => h (Int32.lt_iff_toInt_lt.mpr z)
    omega
theorem sf_mmin {K : wq_T} {L : wq_L} {S : List wq_V} {w : wq_W} {a b Rc Rs : Nat} {x y : Int32} (h0 : Nat.ble (wq_sm S) 8 = true) (h1 : Nat.ble a Rc = true) (h2 : Nat.ble b Rs = true) (hk : ∀ z : Int32, z.toInt = min x.toInt y.toInt → K L (.inl (.int z) :: S) w a b) : wq_m2 (fun x y => if y < x then y else x) Rc Rs K L (.inl (.int y) :: .inl (.int x) :: S) w a b := by
  show cond (Nat.ble (wq_sm S) 8) _ _
  rw [h0]
  refine sf_le h1 (sf_le h2 (hk _ ?_))
  show (if y < x then y else x).toInt = _
  by_cases h : y < x
  · rw [if_pos h]
    have h9 := Int32.lt_iff_toInt_lt.mp h
    omega
  · rw [if_neg h]
    have h9 : ¬ y.toInt < x.toInt := fun z => h (Int32.lt_iff_toInt_lt.mpr z)
    omega
