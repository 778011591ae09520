/-! Making cells: new, newarray, int[n][k]; constructors. -/
def wq_leq (w : wq_W) (n : Nat) : Bool := match w, n with
  | [], 0 => true
  | _ :: r, n + 1 => wq_leq r n
  | _, _ => false
theorem wq_leq_ok {w : wq_W} : ∀ {n : Nat}, wq_leq w n = true → w.length = n := by
  induction w with
  | nil => intro n h; cases n with
    | zero => rfl
    | succ n => cases h
  | cons e r ih => intro n h; cases n with
    | zero => cases h
    | succ n => exact congrArg Nat.succ (ih h)
def wq_rgv (n : Nat) (v : wq_V) : Bool := match v with
  | .inl (.ref p) => Nat.blt p n || Nat.ble 100000 p
  | .inr q => Nat.blt q.1 n
  | _ => true
def wq_rgs (n : Nat) (S : List wq_V) : Bool := match S with
  | [] => true
  | v :: r => wq_rgv n v && wq_rgs n r
def wq_rgl (n : Nat) (L : wq_L) : Bool := match L with
  | [] => true
  | q :: r => wq_rgv n q.2 && wq_rgl n r
def wq_rgw (n : Nat) (w : wq_W) : Bool := match w with
  | [] => true
  | .inr (.inl o) :: r => wq_rgs n o.2 && wq_rgw n r
  | _ :: r => wq_rgw n r
theorem wq_rgv_ok {n : Nat} {ad ad' : wq_Ad} (had : ∀ p i, (p < n ∨ 100000 ≤ p) → ad' p i = ad p i) {v : wq_V} (h : wq_rgv n v = true) : wq_v ad' v = wq_v ad v := by
  rcases v with v | q
  · cases v with
    | ref p =>
      simp only [wq_rgv, Bool.or_eq_true] at h
      show Value.ref (ad' p 0) = Value.ref (ad p 0)
      rw [had p 0 (h.imp (fun z => Nat.le_of_ble_eq_true z) (fun z => Nat.le_of_ble_eq_true z))]
    | _ => rfl
  · show Value.ref (ad' q.1 (q.2 + 1)) = Value.ref (ad q.1 (q.2 + 1))
    rw [had q.1 _ (Or.inl (Nat.le_of_ble_eq_true h))]
theorem wq_rgs_ok {n : Nat} {ad ad' : wq_Ad} (had : ∀ p i, (p < n ∨ 100000 ≤ p) → ad' p i = ad p i) {S : List wq_V} (h : wq_rgs n S = true) : S.map (wq_v ad') = S.map (wq_v ad) := by
  induction S with
  | nil => rfl
  | cons v r ih =>
    simp only [wq_rgs, Bool.and_eq_true] at h
    rw [List.map_cons, List.map_cons, wq_rgv_ok had h.1, ih h.2]
theorem wq_rgl_ok {n : Nat} {ad ad' : wq_Ad} (had : ∀ p i, (p < n ∨ 100000 ≤ p) → ad' p i = ad p i) {L : wq_L} (h : wq_rgl n L = true) : L.map (fun q => (q.1, wq_v ad' q.2)) = L.map (fun q => (q.1, wq_v ad q.2)) := by
  induction L with
  | nil => rfl
  | cons v r ih =>
    simp only [wq_rgl, Bool.and_eq_true] at h
    rw [List.map_cons, List.map_cons, wq_rgv_ok had h.1, ih h.2]
theorem wq_rgw_ok {n : Nat} {w : wq_W} (h : wq_rgw n w = true) : ∀ {p : Nat} {o : Nat × List wq_V}, wq_n w p = some (.inr (.inl o)) → wq_rgs n o.2 = true := by
  induction w with
  | nil => intro p o hp; cases hp
  | cons e r ih =>
    intro p o hp
    cases p with
    | zero =>
      cases hp
      simp only [wq_rgw, Bool.and_eq_true] at h
      exact h.1
    | succ p =>
      refine ih ?_ hp
      rcases e with a | o' | g
      · exact h
      · simp only [wq_rgw, Bool.and_eq_true] at h
        exact h.2
      · exact h
theorem wq_h_ad {cs : Nat → ClassId} {D : va_G} {cl : List vw_C} {ad ad' : wq_Ad} {n p : Nat} {w : wq_W} {e : wq_E} {H : Heap} (had : ∀ p i, (p < n ∨ 100000 ≤ p) → ad' p i = ad p i) (hr : wq_rgw n w = true) (hp : wq_n w p = some e) (hn : p < n) (h : wq_h cs D cl ad p e H) : wq_h cs D cl ad' p e H := by
  rcases e with a | o | g
  · show H[ad' p 0]? = _
    rw [had p 0 (Or.inl hn)]; exact h
  · show va_at D cl (ad' p 0, .inr (o.1, o.2.map (wq_v ad'))) H
    rw [had p 0 (Or.inl hn), wq_rgs_ok had (wq_rgw_ok hr hp)]; exact h
  · refine ⟨?_, fun i hi => ?_⟩
    · rw [had p 0 (Or.inl hn), show (fun i => some (ad' p (i + 1))) = (fun i => some (ad p (i + 1))) from funext fun i => by rw [had p _ (Or.inl hn)]]; exact h.1
    · rw [had p _ (Or.inl hn)]; exact h.2 i hi
theorem wq_ext {cs : Nat → ClassId} {D : va_G} {cl : List vw_C} {A : Nat → Prop} {ad ad' : wq_Ad} {w : wq_W} {H H1 : Heap} {n : Nat} {e : wq_E} (hP : wq_P cs D cl ad w H) (hD : wq_D A ad w) (hlen : w.length = n) (hr : wq_rgw n w = true) (hA : ∀ i, A (H.size + i)) (hk : ∀ q, q < H.size → H1[q]? = H[q]?) (had : ∀ p i, (p < n ∨ 100000 ≤ p) → ad' p i = ad p i) (hnew : ∀ i, ad' n i = H.size + i) (he : wq_h cs D cl ad' n e H1) :
    wq_P cs D cl ad' (w ++ [e]) H1 ∧ wq_D A ad' (w ++ [e]) := by
  have hsplit : ∀ {p : Nat} {z : wq_E}, wq_n (w ++ [e]) p = some z → (p < n ∧ wq_n w p = some z) ∨ (p = n ∧ z = e) := by
    intro p z hz
    rw [wq_n_app, hlen] at hz
    by_cases hp : p < n
    · rw [if_pos hp] at hz; exact Or.inl ⟨hp, hz⟩
    · rw [if_neg hp] at hz
      cases hq : p - n with
      | zero => rw [hq] at hz; cases hz; exact Or.inr ⟨by omega, rfl⟩
      | succ q => rw [hq] at hz; cases hz
  have hold : ∀ {p i : Nat}, wq_o (w ++ [e]) p i → (p < n ∧ wq_o w p i ∧ ad' p i = ad p i ∧ ad p i < H.size) ∨ (p = n ∧ ad' p i = H.size + i) := by
    intro p i ⟨z, hz, hki⟩
    rcases hsplit hz with ⟨h1, h2⟩ | ⟨h1, h2⟩
    · exact Or.inl ⟨h1, ⟨z, h2, hki⟩, had p i (Or.inl h1), wq_h_lt (hP p z h2) hki⟩
    · exact Or.inr ⟨h1, by rw [h1]; exact hnew i⟩
  refine ⟨fun p z hz => ?_, fun p i p' i' h1 h2 hq => ?_, fun p i h1 => ?_⟩
  · rcases hsplit hz with ⟨h1, h2⟩ | ⟨h1, h2⟩
    · exact wq_h_ad had hr h2 h1 (wq_h_kept (hP p z h2) fun i hi => hk _ (wq_h_lt (hP p z h2) hi))
    · rw [h1, h2]; exact he
  · rcases hold h1 with ⟨a1, a2, a3, a4⟩ | ⟨a1, a2⟩ <;> rcases hold h2 with ⟨b1, b2, b3, b4⟩ | ⟨b1, b2⟩
    · rw [a3, b3] at hq; exact hD.1 p i p' i' a2 b2 hq
    · rw [a3, b2] at hq; omega
    · rw [a2, b3] at hq; omega
    · rw [a2, b2] at hq; exact ⟨by omega, by omega⟩
  · rcases hold h1 with ⟨a1, a2, a3, a4⟩ | ⟨a1, a2⟩
    · rw [a3]; exact hD.2 p i a2
    · rw [a2]; exact hA i
def wq_chk (pos N0 : Nat) (L : wq_L) (S : List wq_V) (w : wq_W) : Bool := wq_leq w pos && (Nat.ble N0 pos && (Nat.blt pos 100000 && (wq_rgl pos L && (wq_rgs pos S && wq_rgw pos w))))
theorem wq_chk_ok {pos N0 : Nat} {L : wq_L} {S : List wq_V} {w : wq_W} (h : wq_chk pos N0 L S w = true) : w.length = pos ∧ N0 ≤ pos ∧ pos < 100000 ∧ wq_rgl pos L = true ∧ wq_rgs pos S = true ∧ wq_rgw pos w = true := by
  simp only [wq_chk, Bool.and_eq_true] at h
  exact ⟨wq_leq_ok h.1, Nat.le_of_ble_eq_true h.2.1, Nat.le_of_ble_eq_true h.2.2.1, h.2.2.2.1, h.2.2.2.2.1, h.2.2.2.2.2⟩
def wq_ad (ad : wq_Ad) (n sz : Nat) : wq_Ad := fun p i => if p = n then sz + i else ad p i
theorem wq_ad_old {ad : wq_Ad} {n sz : Nat} (hn : n < 100000) : ∀ p i, (p < n ∨ 100000 ≤ p) → wq_ad ad n sz p i = ad p i := fun p i h => if_neg (by omega)
theorem wq_ad_new {ad : wq_Ad} {n sz : Nat} : ∀ i, wq_ad ad n sz n i = sz + i := fun i => if_pos rfl
def wq_za (t j : Nat) : vp_A := match t with
  | 1 => (j, .inr (.inl fun _ => 0))
  | _ => (j, .inl fun _ => 0)
def wq_newa (t pos N0 Rc Rs : Nat) (k : wq_T) : wq_T := fun L S w n1 n2 => match S with
  | .inl (.int x) :: S' => cond (wq_chk pos N0 L S' w) (∃ j : Nat, x = nI j ∧ wq_le j 10000 (wq_le (n1 + 1) Rc (wq_le (n2 + j) Rs (wq_nf (w ++ [.inl (t, wq_za t j)]) (fun w' => k L (.inl (.ref pos) :: S') w' (n1 + 1) (n2 + j)))))) False
  | _ => False
def wq_mna (pos N0 Rc Rs : Nat) (k : wq_T) : wq_T := fun L S w n1 n2 => match S with
  | .inl (.int y) :: .inl (.int x) :: S' => cond (wq_chk pos N0 L S' w) (∃ j i : Nat, x = nI j ∧ y = nI i ∧ wq_le j 1000 (wq_le i 1000 (wq_le (n1 + (1 + j)) Rc (wq_le (n2 + (j + j * i)) Rs (wq_nf (w ++ [.inr (.inr (j, i, fun _ _ => 0))]) (fun w' => k L (.inl (.ref pos) :: S') w' (n1 + 1 + j) (n2 + j + j * i))))))) False
  | _ => False
def wq_new (ci n pos N0 Rc Rs : Nat) (fs : List wq_V) (k : wq_T) : wq_T := fun L S w n1 n2 =>
  cond (wq_chk pos N0 L S w && wq_rgs pos fs) (wq_le (n1 + 1) Rc (wq_le (n2 + n) Rs (wq_nf (w ++ [.inr (.inl (ci, fs))]) (fun w' => k L (.inl (.ref pos) :: S) w' (n1 + 1) (n2 + n))))) False
section WQN
variable {p : Program} {l : Launch} {e : Env} {R : Room} {s : State} {m : MethodId} {args : Array Value} {below : List Frame} {meth : Method} {c : Code} {nL : Nat} {cs : Nat → ClassId} {D : va_G} {cl : List vw_C} {A : Nat → Prop} {Ag : wq_Ad → Prop} {Q : State → Prop} {cc : ByteArray} {pc N0 pos : Nat} {k : wq_T}
def wq_AgOK (Ag : wq_Ad → Prop) (N0 : Nat) : Prop := ∀ (N : Nat) (ad ad' : wq_Ad), N0 ≤ N → Ag ad → (∀ p i, (p < N ∨ 100000 ≤ p) → ad' p i = ad p i) → Ag ad'
theorem wq_hl_ad {n : Nat} {ad ad' : wq_Ad} {ls : Array Slot} {L : wq_L} (had : ∀ p i, (p < n ∨ 100000 ≤ p) → ad' p i = ad p i) (hr : wq_rgl n L = true) (h : wq_hl ad ls nL L) : wq_hl ad' ls nL L := by
  unfold wq_hl
  rw [wq_rgl_ok had hr]
  exact h
theorem wq_newa_ok (h0 : p.tables.exec = Jvm.exec ∧ c.code = cc) (hK : va_K D cl (wq_tys cs) s) (hA : ∀ q, s.heap.size ≤ q → A q) (hAg : wq_AgOK Ag N0) {atype : ArrayType} {t : Nat} {ty : FieldType} (harr : (Cond.arrayClass (newarray.typeOf atype)).before args s = true) (hty : newarray.typeOf atype = ty) (ht : (t = 0 ∧ ty = .int) ∨ (t = 1 ∧ ty = .long) ∨ (t = 2 ∧ ty = .boolean)) (hd : decode cc pc = .ok (.newarray atype, 2))
    (hk : wq_Snd p l e R s m args below meth c nL cs D cl A Ag Q (pc + 2) k) : wq_Snd p l e R s m args below meth c nL cs D cl A Ag Q pc (wq_newa t pos N0 R.cells R.slots k) := by
  intro L S w n1 n2 h ad ls H locs hG hl hP hD hS
  unfold wq_newa at h
  split at h
  · rename_i x S'
    cases hb : wq_chk pos N0 L S' w with
    | false => rw [hb] at h; exact h.elim
    | true =>
      rw [hb, cond_true] at h
      obtain ⟨j, rfl, h⟩ := h
      obtain ⟨hj, h⟩ := wq_le_ok h
      obtain ⟨hc, hs, h⟩ := wq_le2 h
      rw [wq_nf_eq] at h
      obtain ⟨c1, c2, c3, c4, c5, c6⟩ := wq_chk_ok hb
      have hcomp : componentBytes (newarray.typeOf atype) ≤ 8 := by rw [hty]; rcases ht with ⟨-, rfl⟩ | ⟨-, rfl⟩ | ⟨-, rfl⟩ <;> decide
      refine va_newaK h0.1 h0.2 harr rfl hd rfl (nI_pos (by omega)) (nI_clamp (by omega)) (Nat.le_trans (Nat.mul_le_mul hj hcomp) (by decide)) hc hs rfl fun H1 cA e1 z1 o1 hAr hNm => ?_
      have hcA : cA = cs t := by
        rw [hty] at hNm
        rcases ht with ⟨rfl, rfl⟩ | ⟨rfl, rfl⟩ | ⟨rfl, rfl⟩
        · exact Option.some.inj (hNm.symm.trans (hK.2 0 _ rfl).2)
        · exact Option.some.inj (hNm.symm.trans (hK.2 1 _ rfl).2)
        · exact Option.some.inj (hNm.symm.trans (hK.2 2 _ rfl).2)
      have had := wq_ad_old (ad := ad) (sz := H.size) c3
      obtain ⟨hP', hD'⟩ := wq_ext (e := .inl (t, wq_za t j)) (H1 := H1) hP hD c1 c6 (fun i => hA _ (Nat.le_trans hS.1 (Nat.le_add_right _ _))) o1 had wq_ad_new (by
        show H1[wq_ad ad pos H.size pos 0]? = some (vp_cell (cs t) (wq_za t j))
        rw [wq_ad_new, Nat.add_zero, e1, hcA, hty]
        rcases ht with ⟨rfl, rfl⟩ | ⟨rfl, rfl⟩ | ⟨rfl, rfl⟩ <;> rfl)
      have hfin := hk _ _ _ _ _ h (wq_ad ad pos H.size) ls H1 locs (hAg pos ad _ c2 hG had) (wq_hl_ad had c4 hl) hP' hD' ⟨Nat.le_trans hS.1 (by omega), fun x h1 h2 => (o1 x (Nat.lt_of_lt_of_le h1 hS.1)).trans (hS.2.1 x h1 h2), hS.2.2⟩
      have e9 : (Sum.inl (Value.ref pos) :: S' : List wq_V).map (wq_v (wq_ad ad pos H.size)) = .ref H.size :: S'.map (wq_v ad) := by
        rw [List.map_cons, wq_rgs_ok had c5]
        show Value.ref (wq_ad ad pos H.size pos 0) :: _ = _
        rw [wq_ad_new, Nat.add_zero]
      rw [e9] at hfin
      exact hfin
  · exact h.elim
theorem wq_new_ok (h0 : p.tables.exec = Jvm.exec ∧ c.code = cc) (hK : va_K D cl (wq_tys cs) s) (hA : ∀ q, s.heap.size ≤ q → A q) (hAg : wq_AgOK Ag N0) {own C : String} {T : u_T} {N ci index : Nat} {Ts : List Cond} {fs : List wq_V} (hts : ∀ w ∈ Ts, w.before args s = true) (hin : ∀ w ∈ u_ws C T N, w ∈ Ts) (ty : Nat → FieldType) (hty : ∀ k, k < N → parseFieldDescriptor (T k).2.2.1 = some (ty k)) (hown : s.vm.findClass own = some m.cls) (hcl : (Cond.classLink own index C).before args s = true) (hinst : (Cond.instantiable C N).before args s = true) (hini : (Cond.initialized C).before args s = true)
    (hc : cl[ci]? = some (C, T, N)) (hfs : ∀ (ad : wq_Ad) (j : Nat), j < N → defaultValue (ty j) = vp_V (fs.map (wq_v ad)) j) (hd : decode cc pc = .ok (.new index, 3))
    (hk : wq_Snd p l e R s m args below meth c nL cs D cl A Ag Q (pc + 3) k) : wq_Snd p l e R s m args below meth c nL cs D cl A Ag Q pc (wq_new ci N pos N0 R.cells R.slots fs k) := by
  intro L S w n1 n2 h ad ls H locs hG hl hP hD hS
  unfold wq_new at h
  cases hb : wq_chk pos N0 L S w && wq_rgs pos fs with
  | false => rw [hb] at h; exact h.elim
  | true =>
    rw [hb, cond_true] at h
    obtain ⟨hc1, hs1, h⟩ := wq_le2 h
    rw [wq_nf_eq] at h
    rw [Bool.and_eq_true] at hb
    obtain ⟨c1, c2, c3, c4, c5, c6⟩ := wq_chk_ok hb.1
    have hKn := hK.1 ci _ hc
    refine W.newcK h0.1 h0.2 hown hcl hinst hini rfl hd hc1 hs1 hKn.2.1 rfl fun H1 kC hkC e1 z1 o1 => ?_
    have had := wq_ad_old (ad := ad) (sz := H.size) c3
    obtain ⟨hP', hD'⟩ := wq_ext (e := .inr (.inl (ci, fs))) (H1 := H1) hP hD c1 c6 (fun i => hA _ (Nat.le_trans hS.1 (Nat.le_add_right _ _))) o1 had wq_ad_new (by
      show va_at D cl (wq_ad ad pos H.size pos 0, .inr (ci, fs.map (wq_v (wq_ad ad pos H.size)))) H1
      rw [wq_ad_new, Nat.add_zero]
      exact ⟨_, hc, (u_born ty hts hin hKn hkC e1 hty).to (hfs _)⟩)
    have hfin := hk _ _ _ _ _ h (wq_ad ad pos H.size) ls H1 locs (hAg pos ad _ c2 hG had) (wq_hl_ad had c4 hl) hP' hD' ⟨Nat.le_trans hS.1 (by omega), fun x h1 h2 => (o1 x (Nat.lt_of_lt_of_le h1 hS.1)).trans (hS.2.1 x h1 h2), hS.2.2⟩
    have e9 : (Sum.inl (Value.ref pos) :: S : List wq_V).map (wq_v (wq_ad ad pos H.size)) = .ref H.size :: S.map (wq_v ad) := by
      rw [List.map_cons, wq_rgs_ok had c5]
      show Value.ref (wq_ad ad pos H.size pos 0) :: _ = _
      rw [wq_ad_new, Nat.add_zero]
    rw [e9] at hfin
    exact hfin
theorem wq_arrE (cA : ClassId) (N : Nat) {f g : Nat → Value} (h : ∀ j, j < N → f j = g j) : arrV cA N f = arrV cA N g := by
  unfold arrV
  congr 1
  apply Array.ext
  · simp
  · intro i h1 h2
    simp at h1
    simp [h i h1]
theorem wq_outer (c9 : ClassId) (N h9 : Nat) : ∀ i : Nat, Jvm.Free.Multi.outerC c9 N h9 i = arrV c9 N (fun j => if j < i then .ref (h9 + 1 + j) else .null)
  | 0 => by
    show ({ cls := c9, slots := Array.replicate N .null, vm := .none } : Cell) = _
    rw [arrV_new]
    exact wq_arrE c9 N fun j _ => (if_neg (Nat.not_lt_zero j)).symm
  | i + 1 => by
    show (Jvm.Free.Multi.outerC c9 N h9 i).setSlot i (.ref (h9 + 1 + i)) = _
    rw [wq_outer c9 N h9 i, arrV_store]
    refine wq_arrE c9 N fun j _ => ?_
    by_cases e9 : j = i
    · subst e9
      simp [updV]
    · simp only [updV, if_neg e9]
      by_cases h : j < i
      · rw [if_pos h, if_pos (Nat.lt_succ_of_lt h)]
      · rw [if_neg h, if_neg (by omega)]
theorem wq_mna_ok (h0 : p.tables.exec = Jvm.exec ∧ c.code = cc) (hK : va_K D cl (wq_tys cs) s) (hA : ∀ q, s.heap.size ≤ q → A q) (hAg : wq_AgOK Ag N0) {own : String} {index : Nat} (hown : s.vm.findClass own = some m.cls) (hclink : (Cond.classLink own index "[[I").before args s = true) (hover : (Cond.arrayOver (.array .int)).before args s = true) (harr : (Cond.arrayClass .int).before args s = true) (hd : decode cc pc = .ok (.multianewarray index 2, 4))
    (hk : wq_Snd p l e R s m args below meth c nL cs D cl A Ag Q (pc + 4) k) : wq_Snd p l e R s m args below meth c nL cs D cl A Ag Q pc (wq_mna pos N0 R.cells R.slots k) := by
  intro L S w n1 n2 h ad ls H locs hG hl hP hD hS
  unfold wq_mna at h
  split at h
  · rename_i y x S'
    cases hb : wq_chk pos N0 L S' w with
    | false => rw [hb] at h; exact h.elim
    | true =>
      rw [hb, cond_true] at h
      obtain ⟨j, i, rfl, rfl, h⟩ := h
      obtain ⟨hj, hi, h⟩ := wq_le2 h
      obtain ⟨hc, hs, h⟩ := wq_le2 h
      rw [wq_nf_eq] at h
      obtain ⟨c1, c2, c3, c4, c5, c6⟩ := wq_chk_ok hb
      have ej : (nI j).toNatClampNeg = j := nI_clamp (by omega)
      have ei : (nI i).toNatClampNeg = i := nI_clamp (by omega)
      intro T hT X
      obtain ⟨vm₁, cA, comp, hW1, fA, fC, -, -, X', step⟩ := X.multianewarray2F h0.1 (ty := .int) hown hclink hover harr (g := F0 m pc ls (.int (nI i) :: .int (nI j) :: S'.map (wq_v ad))) rfl (by rw [h0.2]; exact hd) rfl (nI_pos (by omega)) (nI_pos (by omega)) (by rw [ej]; omega) (by rw [ei]; show i * 4 ≤ _; omega) (by rw [ei]; omega) rfl rfl (by rw [ej]; exact hc) (by rw [ej, ei]; exact hs)
      rw [ej, ei] at X' step
      have hcA : cA = cs 3 := Option.some.inj (fA.symm.trans (hK.2 3 _ rfl).2)
      have hcC : comp = cs 0 := Option.some.inj (fC.symm.trans (hK.2 0 _ rfl).2)
      subst hcA
      subst hcC
      have hTh : (T.setVm vm₁).heap = H := hT
      obtain ⟨f1, f2, -, -⟩ := Jvm.Free.Multi.fill_facts (T.setVm vm₁) (cs 3) (cs 0) j i (defaultValue .int) j
      have hold : ∀ x : Nat, x < H.size → (Jvm.Free.Multi.fill (T.setVm vm₁) (cs 3) (cs 0) j i (defaultValue .int) j).heap[x]? = H[x]? := fun x hx => by
        have h9 := Jvm.Free.Multi.fill_old (T.setVm vm₁) (cs 3) (cs 0) j i (defaultValue .int) (a := x) (by rw [hTh]; exact hx) j
        rw [hTh] at h9
        exact h9
      have hrow : ∀ a : Nat, a < j → (Jvm.Free.Multi.fill (T.setVm vm₁) (cs 3) (cs 0) j i (defaultValue .int) j).heap[H.size + 1 + a]? = some (vp_cell (cs 0) (i, .inl (fun _ => 0))) := fun a ha => by
        have h9 := Jvm.Free.Multi.fill_inner (T.setVm vm₁) (cs 3) (cs 0) j i (defaultValue .int) j a ha
        rw [hTh] at h9
        rw [h9, vp_cell_i]
        show some ({ cls := cs 0, slots := Array.replicate i (.int 0), vm := .none } : Cell) = _
        rw [arrV_new]
      rw [hTh] at f1 f2
      generalize hF : Jvm.Free.Multi.fill (T.setVm vm₁) (cs 3) (cs 0) j i (defaultValue .int) j = F at X' step f1 f2 hold hrow
      have had := wq_ad_old (ad := ad) (sz := H.size) c3
      obtain ⟨hP', hD'⟩ := wq_ext (e := .inr (.inr (j, i, fun _ _ => 0))) (H1 := F.heap) hP hD c1 c6 (fun i => hA _ (Nat.le_trans hS.1 (Nat.le_add_right _ _))) hold had wq_ad_new (by
        refine ⟨?_, fun a ha => ?_⟩
        · rw [wq_ad_new, Nat.add_zero, f2, wq_outer, vp_cell_q]
          congr 1
          refine wq_arrE _ j fun a ha => ?_
          rw [if_pos ha]
          show Value.ref (H.size + 1 + a) = Value.ref (wq_ad ad pos H.size pos (a + 1))
          rw [wq_ad_new, Nat.add_assoc, Nat.add_comm 1 a]
        · rw [wq_ad_new, show H.size + (a + 1) = H.size + 1 + a by omega]
          exact hrow a ha)
      have hfin := hk _ _ _ _ _ h (wq_ad ad pos H.size) ls F.heap locs (hAg pos ad _ c2 hG had) (wq_hl_ad had c4 hl) hP' hD' ⟨Nat.le_trans hS.1 (by omega), fun x h1 h2 => (hold x (Nat.lt_of_lt_of_le h1 hS.1)).trans (hS.2.1 x h1 h2), hS.2.2⟩
      have e9 : (Sum.inl (Value.ref pos) :: S' : List wq_V).map (wq_v (wq_ad ad pos H.size)) = .ref H.size :: S'.map (wq_v ad) := by
        rw [List.map_cons, wq_rgs_ok had c5]
        show Value.ref (wq_ad ad pos H.size pos 0) :: _ = _
        rw [wq_ad_new, Nat.add_zero]
      rw [e9] at hfin
      obtain ⟨t2, a1, b1⟩ := hfin F rfl X'
      refine ⟨t2, step t2 ?_, b1⟩
      rw [hT]
      exact a1
  · exact h.elim
def wq_obi (k : wq_T) : wq_T := fun L S w n1 n2 => match S with
  | .inl (.ref _) :: S' => cond (Nat.ble (wq_sm S') 8) (k L S' w n1 n2) False
  | _ => False
theorem wq_obi_ok (h0 : p.tables.exec = Jvm.exec ∧ c.code = cc) (hml : c.maxLocals = nL) {own : String} {idx : Nat} (hown : s.vm.findClass own = some m.cls) (hlink : (Cond.methodLink own idx Lib.objectInit).before args s = true) (hinst : (Cond.instanceMethod Lib.objectInit).before args s = true) (hcode : (Cond.code Lib.objectInit ⟨#[0xb1]⟩ 1 none).before args s = true) (hd : decode cc pc = .ok (.invokespecial idx, 3)) (hf : 1 ≤ R.frames) (hlo : 20 ≤ R.locals)
    (hk : wq_Snd p l e R s m args below meth c nL cs D cl A Ag Q (pc + 3) k) : wq_Snd p l e R s m args below meth c nL cs D cl A Ag Q pc (wq_obi k) := by
  intro L S w n1 n2 h ad ls H locs hG hl hP hD hS
  unfold wq_obi at h
  split at h
  · rename_i x S'
    have hsm : wq_sm S' ≤ 8 := by
      cases hb : Nat.ble (wq_sm S') 8 with
      | true => exact Nat.le_of_ble_eq_true hb
      | false => rw [hb] at h; exact h.elim
    rw [Nat.ble_eq_true_of_le hsm, cond_true] at h
    have hr := lv_room (m := m) (pc := pc) (ls := ls) (rest := (Sum.inl (Value.ref x) :: S' : List wq_V).map (wq_v ad)) (st := S'.map (wq_v ad)) (by rw [wq_sm_map]; exact hsm)
    exact W.objInit h0.1 h0.2 hown hlink hinst hcode rfl (hl.1.trans hml.symm) rfl hd hf (by omega) (hk _ _ _ _ _ h ad ls H locs hG hl hP hD hS)
  · exact h.elim
def wq_isN (r : Option wq_V) (q : Prop) : Prop := match r with
  | none => q
  | some _ => False
/-- a call of what makes cells -/
def wq_callA (sp : wq_S) (na mc ms Rc Rs pos N0 : Nat) (k : wq_T) : wq_T := fun L S w n1 n2 =>
  wq_popn na S [] (fun as rest => cond (Nat.ble (wq_sm rest) 8 && wq_chk pos N0 L rest w) (wq_le (n1 + mc) Rc (wq_le (n2 + ms) Rs (sp as w (fun r w' => wq_isN r (k L rest w' (n1 + mc) (n2 + ms))) (fun _ _ => False)))) False)
theorem wq_callA_ok {sp : wq_S} {na mc ms : Nat} (hA : ∀ q, s.heap.size ≤ q → A q) (hAg : wq_AgOK Ag N0) (hrun : wq_RunOK p l e R s m args below meth c nL cs D cl A wq_G1 sp na mc ms pc)
    (hk : wq_Snd p l e R s m args below meth c nL cs D cl A Ag Q (pc + 3) k) : wq_Snd p l e R s m args below meth c nL cs D cl A Ag Q pc (wq_callA sp na mc ms R.cells R.slots pos N0 k) := by
  intro L S w n1 n2 h ad ls H locs hG0 hl hP hD hS
  unfold wq_callA at h
  obtain ⟨as, rest, h1, h2, -, -, bs, h3, h4⟩ := wq_popn_ok ad na S [] _ h
  cases hb : Nat.ble (wq_sm rest) 8 && wq_chk pos N0 L rest w with
  | false => rw [hb] at h1; exact h1.elim
  | true =>
    rw [hb, cond_true] at h1
    rw [Bool.and_eq_true] at hb
    have hsm : wq_sm rest ≤ 8 := Nat.le_of_ble_eq_true hb.1
    obtain ⟨c1, c2, c3, c4, c5, c6⟩ := wq_chk_ok hb.2
    obtain ⟨hc, hs, hsp⟩ := wq_le2 h1
    have hst : S.map (wq_v ad) = (as.map (wq_v ad)).reverse ++ rest.map (wq_v ad) := by
      rw [h4, h3]; simp
    have hr := hrun ad as rest w _ _ ls H locs n1 n2 hsp (by simpa using h2) hl.1 hP hD hS hsm hc hs
    have hsub := wq_A_sub hD hS hA
    rw [hst]
    intro T hT X
    obtain ⟨st₀, t, T', L', e0, hal, X', hL, e1, e2, hq⟩ := hr T hT X
    rcases hq with ⟨v, ⟨r, w', ad', hk', hG, ho, hP', hD', hF⟩, st⟩ | ⟨q, ⟨E', w', ad', ce, hx', hG, hce, hcv, hcl, hP', hD', hF⟩, st⟩
    · rcases r with _ | r
      rotate_left
      · exact hk'.elim
      subst ho
      have had : ∀ p i, (p < pos ∨ 100000 ≤ p) → ad' p i = ad p i := fun p i h9 => hG p i (by rw [c1]; exact h9)
      have k3 := wq_keep e0 e1 hS hsub hL hF
      obtain ⟨t2, a1, b1⟩ := hk _ _ _ _ _ hk' ad' ls T'.heap (locs ++ L') (hAg pos ad _ c2 hG0 had) (wq_hl_ad had c4 hl) (by rw [e1]; exact hP') ⟨hD'.1, fun p i hi => hsub _ (hD'.2 p i hi)⟩ k3 T' rfl X'
      refine ⟨t2, st t2 ?_, b1⟩
      have e9 : rest.map (wq_v ad') = rest.map (wq_v ad) := wq_rgs_ok had c5
      rw [e9] at a1
      exact a1
    · exact hx'.elim
end WQN
