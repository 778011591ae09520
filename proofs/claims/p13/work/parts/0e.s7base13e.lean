/-! both sides -/
def sm_g5 (g : Nat → Nat → Int32) (f : Nat → Int32) : Prop := ∀ i k : Nat, i < 16 → k < 5 → g i k = f (5 * i + k)
theorem sm_g5S {g g' : Nat → Nat → Int32} {f f' : Nat → Int32} {r c : Int} {a b b' : Nat} {v : Int32} (h : sm_g5 g f) (F : (r ≠ 0 ∧ g' = g) ∨ (r = 0 ∧ g' = wq_up2 g a b v)) (G : (c ≠ 0 ∧ f' = f) ∨ (c = 0 ∧ f' = upd f (5 * a + b') v)) (hrc : r = c) (hb : c = 0 → b = b' ∧ b' < 5) : sm_g5 g' f' := by
  subst hrc
  rcases F with ⟨a1, a2⟩ | ⟨a1, a2⟩ <;> rcases G with ⟨b1, b2⟩ | ⟨b1, b2⟩
  · rw [a2, b2]; exact h
  · exact absurd b1 a1
  · exact absurd a1 b1
  · obtain ⟨e1, e2⟩ := hb a1
    subst e1
    intro i k hi hk
    rw [a2, b2, sf_uu]
    unfold wq_up2
    split
    · split
      · rw [if_pos (by omega)]
      · rw [if_neg (by omega)]
        exact h i k hi hk
    · rw [if_neg (by omega)]
      exact h i k hi hk
def sm_ac (pc pg : Nat → Int32) : Prop := ∀ x : Nat, x < 16 → ¬ sq_R pc pg x x
theorem sm_acS {pc pg pc' pg' : Nat → Int32} {c : Int} {g q : Int32} (h : sm_ac pc pg) (G : sq_G pc pc' pg pg' c g q) (hb : ∀ g : Nat, g < 16 → 0 ≤ (pc g).toInt ∧ (pc g).toInt ≤ 5) (hbp : ∀ k : Nat, k < 80 → (pg k).toInt ≤ 15) (hok : c = 0 → (0 ≤ g.toInt ∧ g.toInt ≤ 15) ∧ (0 ≤ q.toInt ∧ q.toInt ≤ 15) ∧ (pc g.toInt.toNat).toInt < 5 ∧ ¬ (g.toInt.toNat = q.toInt.toNat ∨ sq_R pc pg q.toInt.toNat g.toInt.toNat)) : sm_ac pc' pg' := by
  rcases G with ⟨b1, b2, b3⟩ | ⟨b1, ⟨n2, b2, b3⟩, b4⟩
  · rw [b2, b3]; exact h
  · obtain ⟨g1, g2, g3, g4⟩ := hok b1
    have hgb := hb g.toInt.toNat (by omega)
    intro x hx hR
    have hbp2 : ∀ g k : Nat, g < 16 → (k : Int) < (pc g).toInt → (pg (5 * g + k)).toInt.toNat < 16 := fun x k hx hk => by
      have h1 := hb x hx
      have h2 := hbp (5 * x + k) (by omega)
      omega
    rw [sq_Ra (good := g) (part := q) hgb.1 (by omega) (fun z => by
          by_cases hz : z < 16
          · exact Or.inl (hb z hz).2
          · exact Or.inr (by omega)) hbp2 (by omega) b2 b3 b4 hx x] at hR
    rcases hR with hR | ⟨h1, h2⟩
    · exact h x hx hR
    · apply g4
      rcases h1 with h1 | h1 <;> rcases h2 with h2 | h2
      · exact Or.inl (h1.symm.trans h2)
      · rw [h1] at h2; exact Or.inr h2
      · rw [h2] at h1; exact Or.inr h1
      · exact Or.inr (sq_Rt h2 h1)
theorem sm_ciZ {ins pr pc pg : Nat → Int32} {og : Nat → Nat → Int32} (hZ : sq_Z ins pr pc pg) (ha : sm_ac pc pg) (hg : sm_g5 og pg) (hb : ∀ g : Nat, g < 16 → (pc g).toInt ≤ 5) (hbp : ∀ k : Nat, k < 80 → 0 ≤ (pg k).toInt ∧ (pg k).toInt ≤ 15) : sm_ci ins pr (sm_g2 og) := by
  refine ⟨fun x hx => ?_, fun x k hx hk => ?_, fun y x i hy hx hi h1 h2 => ?_⟩
  · cases hs : sb_t (ins x) x with
    | false => rfl
    | true => exact absurd ((hZ.2 x x hx hx).mp hs) (ha x hx)
  · rw [hZ.1 x hx] at hk
    have h5 := hb x hx
    have hlt := hbp (5 * x + k) (by omega)
    have e : sm_g2 og x k = (pg (5 * x + k)).toInt.toNat := by
      unfold sm_g2
      rw [hg x k hx (by omega)]
    rw [e]
    exact ⟨(hZ.2 x _ hx (by omega)).mpr (sq_R1 hk), by omega⟩
  · exact (hZ.2 y i hy hi).mpr (sq_Rt ((hZ.2 y x hy hx).mp h1) ((hZ.2 x i hx hi).mp h2))
theorem sm_rkZ {ins pr pc pg : Nat → Int32} {og : Nat → Nat → Int32} (hc : sm_ci ins pr (sm_g2 og)) (hZ : sq_Z ins pr pc pg) (hg : sm_g5 og pg) (hb : ∀ g : Nat, g < 16 → (pc g).toInt ≤ 5) : ∃ rk : Nat → Nat, sm_rk rk (sm_pc pc) (sm_f5 pg) := by
  refine ⟨sm_ik ins, fun g hg9 => ?_⟩
  obtain ⟨h1, h2⟩ := sm_cir hc g hg9
  refine ⟨h1, fun k hk => ?_⟩
  have h5 := hb g hg9
  have hk' : (k : Int) < (pc g).toInt := hk
  have e : sm_f5 pg g k = sm_g2 og g k := by
    unfold sm_g2 sm_f5
    rw [hg g k hg9 (by omega)]
  rw [e]
  exact h2 k (by show (k : Int) < (pr g).toInt; rw [hZ.1 g hg9]; exact hk')
theorem sr_upB {p : Nat → Int32} {g : Nat → Int} {n : Int} (h0 : 0 ≤ n) (hp : ∀ i : Nat, (i : Int) < n → (p i).toInt < (i : Int)) (hg : ∀ i : Nat, (i : Int) < n → g i < n) : ∀ (f : Nat) (k : Int), k < n → sr_up p g f k < n
  | 0, _, _ => by
    show (-1 : Int) < n
    omega
  | f + 1, k, hk => by
    by_cases h : 0 ≤ k
    · by_cases hq : 0 ≤ g k.toNat
      · rw [sr_upH rfl h hq]
        exact hg _ (by omega)
      · rw [sr_upS rfl h (by omega)]
        have h9 := hp k.toNat (by omega)
        exact sr_upB h0 hp hg f _ (by omega)
    · rw [sr_upN (by omega)]
      omega
/-- both sides judge a good alike -/
theorem sm_HE {ins pr pc pg pv pl f3 p p' rk rk' rl rl' : Nat → Int32} {og ov ol : Nat → Nat → Int32} {z z' : Int32} {B B' : Int → Int} {n : Int} (hZ : sq_Z ins pr pc pg) (hg : sm_g5 og pg) (hv : sm_g5 ov pv) (hl : sm_g5 ol pl) (hz : z = z') (hb : ∀ g : Nat, g < 16 → (pc g).toInt ≤ 5) (hbp : ∀ k : Nat, k < 80 → 0 ≤ (pg k).toInt ∧ (pg k).toInt ≤ 15) (hJ : sf_J f3 p' n) (he : sf_Q n p p') (hn : 0 ≤ n ∧ n ≤ 24) (hk : sf_Q 24 rk rk') (hr : sf_Q 24 rl rl') (hkr : ∀ i : Nat, i < 24 → -1 ≤ (rk i).toInt) (hB : ∀ g : Nat, g < 16 → B (g : Int) = B' (g : Int) ∧ B (g : Int) < n) (f : Nat) (g : Nat) (hg16 : g < 16) :
    sm_D (sm_V (sm_pc pr) (sm_g2 og) (sm_gv ov) (sm_lg z ol) (sm_cl B) (sm_rc p rk) (sm_ah rk) (sm_ah rl)) f g = sm_D (sm_V (sm_pc pc) (sm_f5 pg) (sm_fv pv) (sm_lf z' pl) (sm_cl B') (sm_rm p' rk') (sm_ah rk') (sm_ah rl')) f g := by
  subst hz
  have hpr : ∀ x, x < 16 → sm_pc pr x = sm_pc pc x := fun x hx => by unfold sm_pc; rw [hZ.1 x hx]
  have hpt : ∀ x k : Nat, x < 16 → (k : Int) < sm_pc pr x → k < 5 ∧ sm_g2 og x k = sm_f5 pg x k ∧ sm_g2 og x k < 16 := fun x k hx hk9 => by
    rw [hpr x hx] at hk9
    have h5 := hb x hx
    have hk' : (k : Int) < (pc x).toInt := hk9
    have hlt := hbp (5 * x + k) (by omega)
    unfold sm_g2 sm_f5
    rw [hg x k hx (by omega)]
    exact ⟨by omega, rfl, by omega⟩
  refine sm_DE (pc := sm_pc pr) (pg := sm_g2 og) (fun x k hx hk9 => (hpt x k hx hk9).2.2) (fun m m' x hx hm => ?_) f g hg16
  obtain ⟨b1, b2⟩ := hB x hx
  have hdec : ∀ i : Nat, (i : Int) < n → (p i).toInt < (i : Int) := fun i hi => by rw [he i hi]; exact (hJ i hi).2.1
  have hrh : sm_rc p rk (sm_cl B x) = sm_rm p' rk' (sm_cl B x) := by
    unfold sm_rc sm_rm
    refine sr_upE hJ he (fun i hi => ?_) 6 6 _ _ b2 (fun h9 => ?_) (Nat.le_refl _) (by unfold sm_cl; omega)
    · unfold sm_rg sm_rj
      have h1 := hkr i (by omega)
      rw [← hk i (by omega)]
      by_cases e : (rk i).toInt = -1
      · rw [if_pos e, if_pos (by omega)]
      · rw [if_neg e, if_neg (by omega)]
    · have h8 := (hJ (sm_cl B x).toNat (by unfold sm_cl at h9 ⊢; omega)).2.2.2.1
      omega
  have hrb : sm_rc p rk (sm_cl B x) < n := sr_upB hn.1 hdec (fun i hi => by
    unfold sm_rg
    split <;> omega) 6 _ b2
  refine sm_VE (hpr x hx) b1 hrh (fun h9 => ?_) (fun k hk9 => ?_)
  · unfold sm_ah
    rw [hk _ (by omega), hr _ (by omega)]
    exact ⟨rfl, rfl⟩
  · obtain ⟨c1, c2, c3⟩ := hpt x k hx hk9
    refine ⟨c2, ?_, ?_, hpr _ c3, (hB _ c3).1, hm k hk9⟩
    · unfold sm_gv sm_fv
      rw [hv x k hx c1]
    · unfold sm_lg sm_lf
      rw [hl x k hx c1]
def sm_UK (f f' : Nat → Int32) (n r : Int) : Prop := (r ≠ 0 ∧ f' = f) ∨ (r = 0 ∧ ∃ v : Int32, v.toInt = -1 ∧ f' = upd f n.toNat v)
theorem sm_upQ {m : Int} {f f' g g' : Nat → Int32} {i j : Nat} {v v' : Int32} (h : sf_Q m f g) (hf : f' = upd f i v) (hg : g' = upd g j v') (hij : i = j) (hv : v.toInt = v'.toInt) : sf_Q m f' g' := by
  intro k hk
  rw [hf, hg, sf_uu, sf_uu, hij, Int32.toInt_inj.mp hv, h k hk]
theorem sm_QK {q n m r c : Int} {f f' g g' : Nat → Int32} (h : sf_Q q f g) (F : sm_UK f f' n r) (G : sm_UK g g' m c) (hn : n = m) (hrc : r = c) : sf_Q q f' g' := by
  subst hn hrc
  rcases F with ⟨a1, a2⟩ | ⟨a1, v, a2, a3⟩ <;> rcases G with ⟨b1, b2⟩ | ⟨b1, v', b2, b3⟩
  · rw [a2, b2]; exact h
  · exact absurd b1 a1
  · exact absurd a1 b1
  · exact sm_upQ h a3 b3 rfl (by omega)
theorem sm_QU {m a r c : Int} {f f' g g' : Nat → Int32} {v : Int32} (h : sf_Q m f g) (F : sf_U f f' a r v) (G : sf_U g g' a c v) (hrc : r = c) : sf_Q m f' g' := by
  subst hrc
  rcases F with ⟨a1, a2⟩ | ⟨a1, a2⟩ <;> rcases G with ⟨b1, b2⟩ | ⟨b1, b2⟩
  · rw [a2, b2]; exact h
  · exact absurd b1 a1
  · exact absurd a1 b1
  · exact sm_upQ h a2 b2 rfl rfl
theorem sm_ac0 {pc pg : Nat → Int32} (h3 : ∀ x, pc x = 0) : sm_ac pc pg := fun x _ h => by
  have hz : (0 : Int32).toInt = 0 := by decide
  exact (h (fun _ => False) (fun k hk => by rw [h3, hz] at hk; omega) (fun _ _ hh _ => hh)).elim
