/-! Heads of loops with their locals in one order; Math.max of longs; arraycopy of ints between two arrays. -/
def wq_pick (is : List Nat) (L : wq_L) : wq_L := match is with
  | [] => []
  | i :: r => match wq_g L i with
    | some v => (i, v) :: wq_pick r L
    | none => wq_pick r L
def wq_can (is : List Nat) (k : wq_T) : wq_T := fun L S w n1 n2 => k (wq_pick is L) S w n1 n2
def wq_ml (f : Int64 → Int64 → Int64) (Rc Rs : Nat) (k : wq_T) : wq_T := fun L S w n1 n2 => match S with
  | .inl (.long y) :: .inl (.long x) :: S' => cond (Nat.ble (wq_sm S') 8) (wq_le n1 Rc (wq_le n2 Rs (k L (.inl (.long (f x y)) :: S') w n1 n2))) False
  | _ => False
def wq_cpy (k : wq_T) : wq_T := fun L S w n1 n2 => match S with
  | .inl (.int n) :: .inl (.int dp) :: .inl (.ref q) :: .inl (.int sp) :: .inl (.ref p) :: S' => match wq_n w p, wq_n w q with
    | some (.inl (0, (N0, .inl f))), some (.inl (0, (N1, .inl g))) => p ≠ q ∧ ¬ sp < 0 ∧ ¬ dp < 0 ∧ ¬ n < 0 ∧ sp.toNatClampNeg + n.toNatClampNeg ≤ N0 ∧ dp.toNatClampNeg + n.toNatClampNeg ≤ N1 ∧ Nat.ble (wq_sm S') 8 = true ∧ wq_nf (wq_u w q (.inl (0, (N1, .inl (va_cpy f g sp.toNatClampNeg dp.toNatClampNeg n.toNatClampNeg))))) (fun w' => k L S' w' n1 n2)
    | _, _ => False
  | _ => False
section WQC
variable {p : Program} {l : Launch} {e : Env} {R : Room} {s : State} {m : MethodId} {args : Array Value} {below : List Frame} {meth : Method} {c : Code} {nL : Nat} {cs : Nat → ClassId} {D : va_G} {cl : List vw_C} {A : Nat → Prop} {Ag : wq_Ad → Prop} {Q : State → Prop} {cc : ByteArray} {pc : Nat} {k : wq_T} {own : String} {index : Nat}
theorem wq_pick_mem {is : List Nat} {L : wq_L} {q : Nat × wq_V} (h : q ∈ wq_pick is L) : q ∈ L := by
  induction is with
  | nil => cases h
  | cons i r ih =>
    unfold wq_pick at h
    cases hg : wq_g L i with
    | none =>
      rw [hg] at h
      exact ih h
    | some v =>
      rw [hg] at h
      rcases List.mem_cons.mp h with rfl | h
      · exact wq_g_mem hg
      · exact ih h
theorem wq_can_ok {is : List Nat} (hk : wq_Snd p l e R s m args below meth c nL cs D cl A Ag Q pc k) : wq_Snd p l e R s m args below meth c nL cs D cl A Ag Q pc (wq_can is k) := by
  intro L S w n1 n2 h ad ls H locs hA hl hP hD hS
  exact hk _ _ _ _ _ h ad ls H locs hA (wq_hl_sub hl fun q hq => wq_pick_mem hq) hP hD hS
theorem wq_ml_ok {f : Int64 → Int64 → Int64} (hW : ∀ (H : Heap) (locs : List Loc) (n1 n2 : Nat) (ls : Array Slot) (rest : List Value) (x y : Int64), ls.size = nL → (rest.map fun v => v.category).sum ≤ 8 → n1 ≤ R.cells → n2 ≤ R.slots → W p l e R s m args below meth c H locs n1 n2 Q (F0 m (pc + 3) ls (.long (f x y) :: rest)) → W p l e R s m args below meth c H locs n1 n2 Q (F0 m pc ls (.long y :: .long x :: rest)))
    (hk : wq_Snd p l e R s m args below meth c nL cs D cl A Ag Q (pc + 3) k) : wq_Snd p l e R s m args below meth c nL cs D cl A Ag Q pc (wq_ml f R.cells R.slots k) := by
  intro L S w n1 n2 h ad ls H locs hA hl hP hD hS
  unfold wq_ml at h
  split at h
  · rename_i y x S'
    have hsm : wq_sm S' ≤ 8 := by
      cases hb : Nat.ble (wq_sm S') 8 with
      | true => exact Nat.le_of_ble_eq_true hb
      | false => rw [hb] at h; exact h.elim
    rw [Nat.ble_eq_true_of_le hsm, cond_true] at h
    obtain ⟨hc, hs, h⟩ := wq_le2 h
    exact hW H locs n1 n2 ls _ x y hl.1 (by rw [wq_sm_map]; exact hsm) hc hs (hk _ _ _ _ _ h ad ls H locs hA hl hP hD hS)
  · exact h.elim
theorem wq_cpy_ok (h0 : p.tables.exec = Jvm.exec ∧ c.code = cc) (hml : c.maxLocals = nL) (hown : s.vm.findClass own = some m.cls) (hlink : (Cond.methodLink own index arraycopyName).before args s = true) (hnat : (Cond.native arraycopyName).before args s = true) (hstat : (Cond.static arraycopyName).before args s = true) (hini : (Cond.initialized "java/lang/System").before args s = true) (hK : va_K D cl (wq_tys cs) s) (hfr : 1 ≤ R.frames) (hlo : 26 ≤ R.locals) (hd : decode cc pc = .ok (.invokestatic index, 3))
    (hk : wq_Snd p l e R s m args below meth c nL cs D cl A Ag Q (pc + 3) k) : wq_Snd p l e R s m args below meth c nL cs D cl A Ag Q pc (wq_cpy k) := by
  intro L S w n1 n2 h ad ls H locs hA hl hP hD hS
  unfold wq_cpy at h
  split at h
  · rename_i n dp q sp p0 S'
    split at h
    · rename_i N0 f N1 g hp hq
      obtain ⟨hne, g1, g2, g3, g4, g5, g6, h⟩ := h
      simp only [wq_nf_eq] at h
      have hc0 : H[ad p0 0]? = some (vp_cell (cs 0) (N0, .inl f)) := hP p0 _ hp
      have hc1 : H[ad q 0]? = some (vp_cell (cs 0) (N1, .inl g)) := hP q _ hq
      obtain ⟨-, k0, hk0, cm0, hkk0⟩ := (hK.2 0 _ rfl).1 N0 (fun j => .int (f j))
      obtain ⟨-, k1, hk1, cm1, hkk1⟩ := (hK.2 0 _ rfl).1 N1 (fun j => .int (g j))
      have nn : ∀ z : Int32, ¬ z < 0 → z.toInt = (z.toNatClampNeg : Int) := by
        intro z hz
        have h1 := Int32.le_iff_toInt_le.mp (Int32.not_lt.mp hz)
        have h2 : (0 : Int32).toInt = 0 := by decide
        show z.toInt = ((z.toInt.toNat : Nat) : Int)
        omega
      have hsm : wq_sm S' ≤ 8 := Nat.le_of_ble_eq_true g6
      have hw9 : nativeFrameWords "java/lang/System" "arraycopy" 5 = 7 := by decide
      have hs9 : ((S'.map (wq_v ad)).map fun v => v.category).sum = wq_sm S' := by rw [wq_sm_map]
      intro T hT X
      obtain ⟨vm', X', step⟩ := X.arraycopy h0.1 hown hlink hnat hstat hini (src := ad p0 0) (dst := ad q 0) (cs := vp_cell (cs 0) (N0, .inl f)) (cd := vp_cell (cs 0) (N1, .inl g)) (srcPos := sp) (destPos := dp) (n := n) (by rw [hT]; exact hc0) (by rw [hT]; exact hc1)
        (fun _ h => by cases h) (fun _ h => by cases h) (fun h => by cases h) (fun h => by cases h) hk0 hk1 hkk0 hkk1 (by simp [refKind]) g1 g2 g3
        (by rw [nn sp g1, nn n g3]; show ¬ _ > ((arrV (cs 0) N0 (fun j => .int (f j))).slots.size : Int); rw [arrV_size]; omega)
        (by rw [nn dp g2, nn n g3]; show ¬ _ > ((arrV (cs 0) N1 (fun j => .int (g j))).slots.size : Int); rw [arrV_size]; omega)
        (fun vm₁ _ i hi => by
          have e9 : (vp_cell (cs 0) (N0, .inl f)).slots.getD (sp.toNatClampNeg + i) .null = .int (f (sp.toNatClampNeg + i)) := by
            show (arrV (cs 0) N0 (fun j => .int (f j))).slots.getD _ _ = _
            rw [Array.getD_eq_getD_getElem?, arrV_read _ _ (by omega)]
            rfl
          rw [e9]
          exact ⟨rfl, trivial⟩)
        (g := F0 m pc ls (.int n :: .int dp :: .ref (ad q 0) :: .int sp :: .ref (ad p0 0) :: S'.map (wq_v ad))) rfl (by rw [hml]; exact hl.1) (rest := S'.map (wq_v ad)) rfl (by rw [h0.2]; exact hd) hfr (by show 2 * 0 + _ + _ ≤ _; omega)
      have e1 : copied (vp_cell (cs 0) (N0, .inl f)) (vp_cell (cs 0) (N1, .inl g)) sp dp n = vp_cell (cs 0) (N1, .inl (va_cpy f g sp.toNatClampNeg dp.toNatClampNeg n.toNatClampNeg)) := va_copied (fun z => .int z) (cs 0) (cs 0) f g g4
      rw [e1] at X' step
      have hlt : ad q 0 < H.size := (Array.getElem?_eq_some_iff.mp hc1).1
      have hheap : ((T.setVm vm').setCell (ad q 0) (vp_cell (cs 0) (N1, .inl (va_cpy f g sp.toNatClampNeg dp.toNatClampNeg n.toNatClampNeg)))).heap = H.setIfInBounds (ad q 0) (vp_cell (cs 0) (N1, .inl (va_cpy f g sp.toNatClampNeg dp.toNatClampNeg n.toNatClampNeg))) := by rw [← hT]; rfl
      have oq : ∀ z : Nat, z ≠ ad q 0 → (H.setIfInBounds (ad q 0) (vp_cell (cs 0) (N1, .inl (va_cpy f g sp.toNatClampNeg dp.toNatClampNeg n.toNatClampNeg))))[z]? = H[z]? := fun z hz => by simp [Array.getElem?_setIfInBounds, Ne.symm hz]
      have hAq : A (ad q 0) := hD.2 q 0 ⟨_, hq, wq_k0 _⟩
      obtain ⟨t, a1, b1⟩ := hk _ _ _ _ _ h ad ls _ _ hA hl (wq_P_u hP hD hq (wq_k0 _) oq (show (H.setIfInBounds (ad q 0) _)[ad q 0]? = some _ by simp [Array.getElem?_setIfInBounds, hlt])) (wq_D_u hD hq (fun i hi => hi)) ⟨by simp; exact hS.1, fun z z1 z2 => by
          rw [oq z (fun e => z2 (by rw [e]; exact hAq))]
          exact hS.2.1 z z1 z2, fun z hz => by
          rcases List.mem_append.mp hz with h | h
          · exact hS.2.2 z h
          · obtain ⟨y, -, hy⟩ := List.mem_map.mp h
            rw [← hy]
            exact hAq⟩ _ hheap X'
      exact ⟨t, step t a1, b1⟩
    · exact h.elim
  · exact h.elim
end WQC
