/-! Methods by predicate transformers: contracts (wq_Vld), returns, throws, calls, loops. -/
def wq_A (ad : wq_Ad) (w : wq_W) (sz : Nat) : Nat → Prop := fun q => (∃ p i, wq_o w p i ∧ q = ad p i) ∨ sz ≤ q
/-- a static field of a reference, in a cell that is not of A -/
def wq_Sx (A : Nat → Prop) (U : State) (H : Heap) (C n d : String) : Prop :=
  ∃ (c : ClassId) (k : Class) (i : Nat) (f : Field) (a : Nat) (cell : Cell) (v : Value), U.vm.findClass C = some c ∧ U.fieldFound? C n d = some (c, k, i, f) ∧ f.isStatic = true ∧ k.statics = some a ∧ H[a]? = some cell ∧ cell.vm.isStatics = true ∧ cell.cls = c ∧ f.slot < cell.slots.size ∧ k.staticTypes[f.slot]? = some f.type ∧ cell.slots[f.slot]? = some v ∧ v.isRef = true ∧ ¬ A a
theorem wq_Sx_moved {A : Nat → Prop} {u U : State} {H : Heap} {C n d : String} (hvm : u.vm.Alike U.vm) (h : wq_Sx A u H C n d) : wq_Sx A U H C n d := by
  obtain ⟨c, k, i, f, a, cell, v, h1, h2, h3, h4, h5, h6, h7, h8, h9, h10⟩ := h
  obtain ⟨k', hi', he⟩ := State.fieldFound?_setVm hvm h2
  exact ⟨c, k', i, f, a, cell, v, by rw [hvm.findClass]; exact h1, hi', h3, by rw [he]; exact h4, h5, h6, h7, h8, by rw [he]; exact h9, h10⟩
theorem wq_Sx_kept {A : Nat → Prop} {U : State} {H H1 : Heap} {C n d : String} (h : wq_Sx A U H C n d) (hq : ∀ a : Nat, a < H.size → ¬ A a → H1[a]? = H[a]?) : wq_Sx A U H1 C n d := by
  obtain ⟨c, k, i, f, a, cell, v, h1, h2, h3, h4, h5, h6, h7, h8, h9, h10, h11, h12⟩ := h
  exact ⟨c, k, i, f, a, cell, v, h1, h2, h3, h4, by rw [hq a (Array.getElem?_eq_some_iff.mp h5).1 h12]; exact h5, h6, h7, h8, h9, h10, h11, h12⟩
theorem wq_Sx_narrow {A B : Nat → Prop} {U : State} {H : Heap} {C n d : String} (h : wq_Sx A U H C n d) (hAB : ∀ q, B q → A q) : wq_Sx B U H C n d := by
  obtain ⟨c, k, i, f, a, cell, v, h1, h2, h3, h4, h5, h6, h7, h8, h9, h10, h11, h12⟩ := h
  exact ⟨c, k, i, f, a, cell, v, h1, h2, h3, h4, h5, h6, h7, h8, h9, h10, h11, fun z => h12 (hAB a z)⟩
theorem wq_Sx_of {A : Nat → Prop} {s : State} {args : Array Value} {C n d : String} (hl : (Cond.laysStatic C n d).before args s = true) (h : (Cond.isRef (.static C n d)).before args s = true) (hA : ∀ a : Nat, a < s.heap.size → ¬ A a) : wq_Sx A s s.heap C n d := by
  obtain ⟨c, k, i, f, a, cell, h1, h2, h3, h4, h5, h6, h7, h8, h9⟩ := Cond.laysStatic_spec hl
  cases hv : (Term.static C n d).eval args s none [] s with
  | none => simp [Cond.before, Cond.holds, Cond.value, hv] at h
  | some w =>
    obtain ⟨-, a', cell', ha', hcell', -, hslot⟩ := Term.static_spec h2 hv
    cases h4.symm.trans ha'
    cases h5.symm.trans hcell'
    simp only [Cond.before, Cond.holds, Cond.value, hv] at h
    refine ⟨c, k, i, f, a, cell, w, h1, h2, h3, h4, h5, h6, h7, h8, h9, hslot, ?_, hA a (Array.getElem?_eq_some_iff.mp h5).1⟩
    cases w <;> simp_all [Value.isRef]
theorem wq_Sx_lays {A : Nat → Prop} {s : State} {args : Array Value} {C n d : String} (h : wq_Sx A s s.heap C n d) : (Cond.laysStatic C n d).before args s = true := by
  obtain ⟨c, k, i, f, a, cell, v, h1, h2, h3, h4, h5, h6, h7, h8, h9, -⟩ := h
  show (Cond.laysStatic C n d).holds args s none s [] = true
  exact Cond.laysStatic_of h1 h2 h3 h4 h5 h6 h7 h8 h9
theorem wq_Sx_ref {A : Nat → Prop} {s : State} {args : Array Value} {C n d : String} (h : wq_Sx A s s.heap C n d) : (Cond.isRef (.static C n d)).before args s = true := by
  obtain ⟨c, k, i, f, a, cell, v, h1, h2, h3, h4, h5, h6, h7, h8, h9, h10, h11, -⟩ := h
  have he : (Term.static C n d).eval args s none [] s = some v := by
    simp [Term.eval, State.fieldNamed?, h2, h3, h4, h5, h6, h10]
  simp only [Cond.before, Cond.holds, Cond.value, he]
  cases v <;> simp_all [Value.isRef]
def wq_Z (A : Nat → Prop) (U : State) (H : Heap) : Prop := wq_Sx A U H Bundle.tN "UNASSIGNED_STACK" Bundle.steD ∧ wq_Sx A U H Bundle.tN "SUPPRESSED_SENTINEL" Bundle.listD
def wq_en (E : Nat) : String := match E with
  | 0 => "java/lang/IllegalArgumentException"
  | 1 => "java/lang/IllegalStateException"
  | 2 => "java/util/NoSuchElementException"
  | _ => "java/lang/UnsupportedOperationException"
/-- words that no good list carries: what is thrown can be caught by its own name; the constructors above it -/
def wq_fw : List Cond := [.castable (wq_en 0) (wq_en 0), .castable (wq_en 1) (wq_en 1), .castable (wq_en 2) (wq_en 2), .castable (wq_en 3) (wq_en 3), .declares ⟨"java/lang/RuntimeException", "<init>", "()V"⟩, .declares ⟨"java/lang/Exception", "<init>", "()V"⟩, .declares ⟨"java/lang/Throwable", "<init>", "()V"⟩]
/-- no one of the four kinds of exceptions is another; the words that no good list carries; links to nest mates -/
def wq_N (U : State) : Prop := (∀ E E' : Nat, E < 4 → E' < 4 → E ≠ E' → va_Nc (wq_en E) (wq_en E') U) ∧ (∀ w ∈ wq_fw, w.before #[] U = true) ∧ (∀ q ∈ wq_nw, (Cond.methodLinkNest q.1 q.2.1 q.2.2.1 q.2.2.2).before #[] U = true) ∧ (Cond.arrayOver (.array .int)).before #[] U = true
theorem wq_fw_tab : ∀ w ∈ wq_fw, w.onTables = true := by decide +kernel
theorem wq_N_moved {u U : State} (hW : u.WarmedH U.vm) (h : wq_N u) : wq_N U := by
  have hvm := hW.alike
  have tr : ∀ {c : Cond}, c.onTables = true → c.before #[] (u.setVm U.vm) = true → c.before #[] U = true := by
    intro c hc h
    have e := Cond.onTables_vm (A := #[]) (A' := #[]) (U := u) (U' := U) U.vm c hc
    have hU : U.setVm U.vm = U := rfl
    rw [hU] at e
    rw [← e]
    exact h
  refine ⟨fun E E' h1 h2 h3 => va_Nc.moved hvm (h.1 E E' h1 h2 h3), fun w hw => tr (wq_fw_tab w hw) ?_, fun q hq => va_Nw.warmM hW (h.2.2.1 q hq), over_moved (a := #[]) (a' := #[]) hvm h.2.2.2⟩
  have h9 := h.2.1 w hw
  simp only [wq_fw, List.mem_cons, List.not_mem_nil, or_false] at hw
  rcases hw with rfl | rfl | rfl | rfl | rfl | rfl | rfl
  · rw [Cond.castable_setVm hvm]; exact h9
  · rw [Cond.castable_setVm hvm]; exact h9
  · rw [Cond.castable_setVm hvm]; exact h9
  · rw [Cond.castable_setVm hvm]; exact h9
  · rw [Cond.declares_setVm hvm]; exact h9
  · rw [Cond.declares_setVm hvm]; exact h9
  · rw [Cond.declares_setVm hvm]; exact h9
def wq_Pc (cs : Nat → ClassId) (D : va_G) (cl : List vw_C) (ad : wq_Ad) (as : List wq_V) (w : wq_W) (sz : Nat) : Array Value → State → Prop := fun v U =>
  v = (as.map (wq_v ad)).toArray ∧ U.heap.size = sz ∧ wq_P cs D cl ad w U.heap ∧ va_K D cl (wq_tys cs) U ∧ wq_D (wq_A ad w sz) ad w ∧ wq_Z (wq_A ad w sz) U U.heap ∧ wq_N U
def wq_Qr (cs : Nat → ClassId) (D : va_G) (cl : List vw_C) (A : Nat → Prop) (Ag : wq_Ad → Prop) (k : Option wq_V → wq_W → Prop) : State → Option Value → State → Prop := fun st v t =>
  ∃ (r : Option wq_V) (w' : wq_W) (ad' : wq_Ad), k r w' ∧ Ag ad' ∧ v = r.map (wq_v ad') ∧ wq_P cs D cl ad' w' t.heap ∧ wq_D A ad' w' ∧ va_F A st t
def wq_Qx (cs : Nat → ClassId) (D : va_G) (cl : List vw_C) (A : Nat → Prop) (Ag : wq_Ad → Prop) (x : Nat → wq_W → Prop) : State → Addr → State → Prop := fun st q t =>
  ∃ (E : Nat) (w' : wq_W) (ad' : wq_Ad) (ce : Cell), x E w' ∧ Ag ad' ∧ t.heap[q]? = some ce ∧ ce.vm = .none ∧ st.vm.findClass (wq_en E) = some ce.cls ∧ wq_P cs D cl ad' w' t.heap ∧ wq_D A ad' w' ∧ va_F A st t
abbrev wq_Q (cs : Nat → ClassId) (D : va_G) (cl : List vw_C) (A : Nat → Prop) (Ag : wq_Ad → Prop) (k : Option wq_V → wq_W → Prop) (x : Nat → wq_W → Prop) (below : List Frame) (s : State) (mc ms : Nat) : State → Prop :=
  wq_MQ below (wq_Qr cs D cl A Ag k) (wq_Qx cs D cl A Ag x) s mc ms A
def wq_Vld (l : Launch) (cl : List vw_C) (y : MethodName) (ws : List Cond) (rm : Room) (G : wq_Ad → wq_W → wq_Ad → Prop) (sp : wq_S) (mc ms : Nat) : Prop :=
  ∀ (cs : Nat → ClassId) (D : va_G) (ad : wq_Ad) (as : List wq_V) (w : wq_W) (sz : Nat) (k : Option wq_V → wq_W → Prop) (x : Nat → wq_W → Prop), sp as w k x →
    wq_Met l y ws rm (wq_Pc cs D cl ad as w sz) (wq_Qr cs D cl (wq_A ad w sz) (G ad w) k) (wq_Qx cs D cl (wq_A ad w sz) (G ad w) x) mc ms (wq_A ad w sz)
def wq_G0 (ad : wq_Ad) (_ : wq_W) (ad' : wq_Ad) : Prop := ad' = ad
def wq_G1 (ad : wq_Ad) (w : wq_W) (ad' : wq_Ad) : Prop := ∀ p i, (p < w.length ∨ 100000 ≤ p) → ad' p i = ad p i
-- entry
def wq_ar (i : Nat) (as : List wq_V) : wq_L := match as with
  | [] => []
  | v :: r => (i, v) :: wq_ar (cond (Nat.beq (wq_c v) 2) (i + 2) (i + 1)) r
def wq_sm (as : List wq_V) : Nat := match as with
  | [] => 0
  | v :: r => wq_c v + wq_sm r
theorem wq_ar_eq (ad : wq_Ad) (as : List wq_V) : ∀ i, (wq_ar i as).map (fun q => (q.1, wq_v ad q.2)) = lv_args i (as.map (wq_v ad)) := by
  induction as with
  | nil => intro i; rfl
  | cons v r ih =>
    intro i
    show (i, wq_v ad v) :: (wq_ar _ r).map _ = (i, wq_v ad v) :: lv_args _ (r.map (wq_v ad))
    rw [ih, wq_vc]
    congr 2
    cases hb : Nat.beq (wq_c v) 2 with
    | true => rw [if_pos (Nat.eq_of_beq_eq_true hb)]; rfl
    | false => rw [if_neg (Nat.ne_of_beq_eq_false hb)]; rfl
theorem wq_sl_len (ad : wq_Ad) (as : List wq_V) : (lg_sl (as.map (wq_v ad))).length = wq_sm as := by
  induction as with
  | nil => rfl
  | cons v r ih =>
    show (lg_sl (wq_v ad v :: r.map (wq_v ad))).length = wq_c v + wq_sm r
    rw [← ih]
    unfold lg_sl
    rw [List.flatMap_cons, List.length_append]
    have hc := wq_vc ad v
    rcases lv_cat (wq_v ad v) with h | h
    · rw [if_neg (by omega), ← hc, h]; rfl
    · rw [if_pos h, ← hc, h]; rfl
theorem wq_sm_map (ad : wq_Ad) (as : List wq_V) : ((as.map (wq_v ad)).map fun v => v.category).sum = wq_sm as := by
  induction as with
  | nil => rfl
  | cons v r ih =>
    simp only [List.map_cons, List.sum_cons] at ih ⊢
    rw [ih, wq_vc]
    rfl
/-- what a method's body has from its start -/
def wq_Fx (p : Program) (l : Launch) (s : State) (m : MethodId) (args : Array Value) (meth : Method) (c : Code) (y : MethodName) (ws : List Cond) (cc : ByteArray) (maxL : Nat) (ret : Option FieldType) (cs : Nat → ClassId) (D : va_G) (cl : List vw_C) (A : Nat → Prop) : Prop :=
  (p.tables.exec = Jvm.exec ∧ c.code = cc) ∧ meth.sig.returnType = ret ∧ (∀ w ∈ ws, w.before args s = true) ∧ s.vm.findClass y.cls = some m.cls ∧ meth.locks = false ∧ meth.name = y.name ∧ c.maxLocals = maxL ∧ va_K D cl (wq_tys cs) s ∧ wq_Z A s s.heap ∧ wq_N s ∧ ∀ q, s.heap.size ≤ q → A q
theorem wq_method {l : Launch} {cl : List vw_C} {y : MethodName} {ws : List Cond} {rm : Room} {G : wq_Ad → wq_W → wq_Ad → Prop} {sp : wq_S} {mc ms : Nat} {cc : ByteArray} {maxL : Nat} {ret : Option FieldType}
    (hy : plainName y.cls = true) (hw : Cond.code y cc maxL ret ∈ ws) (hG : ∀ ad w, G ad w ad) (hsz : ∀ as w k x, sp as w k x → wq_sm as ≤ maxL)
    (body : ∀ (p : Program) (e : Env) (s : State) (m : MethodId) (args : Array Value) (below : List Frame) (meth : Method) (c : Code) (cs : Nat → ClassId) (D : va_G) (ad : wq_Ad) (as : List wq_V) (w : wq_W) (k : Option wq_V → wq_W → Prop) (x : Nat → wq_W → Prop),
      wq_Fx p l s m args meth c y ws cc maxL ret cs D cl (wq_A ad w s.heap.size) → (∀ z ∈ c.exceptionTable.toList, False) → sp as w k x →
      wq_at p l e rm s m args below meth c maxL cs D cl (wq_A ad w s.heap.size) (G ad w) (wq_Q cs D cl (wq_A ad w s.heap.size) (G ad w) k x below s mc ms) 0 (wq_ar 0 as) [] w 0 0) :
    wq_Vld l cl y ws rm G sp mc ms := by
  intro cs D ad as w sz k x hsp
  refine wq_ofW (cc := cc) (maxL := maxL) (ret := ret) hy hw ?_
  intro p e s m args below meth c s₁ B hml ht hv
  obtain ⟨rfl, rfl, hP, hK, hD, hZ, hN⟩ := hv
  have hts := atoms_spec (ws := ws) B.pre
  have hF : wq_Fx p l s m ((as.map (wq_v ad)).toArray) meth c y ws cc maxL ret cs D cl (wq_A ad w s.heap.size) :=
    ⟨⟨B.exec, B.bytes⟩, B.returns, hts, findClass_of_methodNamed B.named, B.notSynchronized, (name_of_methodNamed B.named B.method).1, hml, hK, hZ, hN, fun q h => Or.inr h⟩
  have hb := body p e s m _ below meth c cs D ad as w k x hF ht hsp
  rw [lg_entry_eq]
  refine hb ad _ s.heap [] (hG ad w) ?_ hP hD va_S.rf
  unfold wq_hl
  rw [wq_ar_eq]
  exact lv_entry _ (by rw [wq_sl_len]; exact hsz as w k x hsp)
-- standard form
def wq_sp (maxL : Nat) (t : (Option wq_V → wq_W → Prop) → (Nat → wq_W → Prop) → wq_T) : wq_S := fun as w k x => cond (Nat.ble (wq_sm as) maxL) (t k x (wq_ar 0 as) [] w 0 0) False
theorem wq_sp_sz {maxL : Nat} {t : (Option wq_V → wq_W → Prop) → (Nat → wq_W → Prop) → wq_T} (as : List wq_V) (w : wq_W) (k : Option wq_V → wq_W → Prop) (x : Nat → wq_W → Prop) (h : wq_sp maxL t as w k x) : wq_sm as ≤ maxL := by
  unfold wq_sp at h
  cases hb : Nat.ble (wq_sm as) maxL with
  | true => exact Nat.le_of_ble_eq_true hb
  | false => rw [hb] at h; exact h.elim
theorem wq_sp_t {maxL : Nat} {t : (Option wq_V → wq_W → Prop) → (Nat → wq_W → Prop) → wq_T} {as : List wq_V} {w : wq_W} {k : Option wq_V → wq_W → Prop} {x : Nat → wq_W → Prop} (h : wq_sp maxL t as w k x) : t k x (wq_ar 0 as) [] w 0 0 := by
  have h1 := wq_sp_sz as w k x h
  unfold wq_sp at h
  rw [Nat.ble_eq_true_of_le h1] at h
  exact h
def wq_no : wq_S := fun _ _ _ _ => False
theorem wq_no_ok {l : Launch} {cl : List vw_C} {y : MethodName} {ws : List Cond} {rm : Room} {G : wq_Ad → wq_W → wq_Ad → Prop} {mc ms : Nat} : wq_Vld l cl y ws rm G wq_no mc ms := fun _ _ _ _ _ _ _ _ h => h.elim
section WQR
variable {p : Program} {l : Launch} {e : Env} {R : Room} {s : State} {m : MethodId} {args : Array Value} {below : List Frame} {meth : Method} {c : Code} {nL : Nat} {cs : Nat → ClassId} {D : va_G} {cl : List vw_C} {A : Nat → Prop} {Ag : wq_Ad → Prop} {Q : State → Prop} {cc : ByteArray} {pc mc ms : Nat} {rt : Option wq_V → wq_W → Prop} {xt : Nat → wq_W → Prop}
def wq_ireturn (mc ms : Nat) (rt : Option wq_V → wq_W → Prop) : wq_T := fun _ S w n1 n2 => match S with
  | [.inl (.int v)] => wq_le n1 mc (wq_le n2 ms (rt (some (.inl (.int v))) w))
  | _ => False
def wq_zreturn (mc ms : Nat) (rt : Option wq_V → wq_W → Prop) : wq_T := fun _ S w n1 n2 => match S with
  | [.inl (.int v)] => (v = 0 ∨ v = 1) ∧ wq_le n1 mc (wq_le n2 ms (rt (some (.inl (.int v))) w))
  | _ => False
def wq_lreturn (mc ms : Nat) (rt : Option wq_V → wq_W → Prop) : wq_T := fun _ S w n1 n2 => match S with
  | [.inl (.long v)] => wq_le n1 mc (wq_le n2 ms (rt (some (.inl (.long v))) w))
  | _ => False
def wq_vreturn (mc ms : Nat) (rt : Option wq_V → wq_W → Prop) : wq_T := fun _ S w n1 n2 => match S with
  | [] => wq_le n1 mc (wq_le n2 ms (rt none w))
  | _ => False
theorem wq_le2 {a b c d : Nat} {q : Prop} (h : wq_le a b (wq_le c d q)) : a ≤ b ∧ c ≤ d ∧ q := ⟨(wq_le_ok h).1, wq_le_ok (wq_le_ok h).2⟩
theorem wq_ireturn_ok (h0 : p.tables.exec = Jvm.exec ∧ c.code = cc) (hr : meth.sig.returnType = some .int) (hlk : meth.locks = false) (hd : decode cc pc = .ok (.ireturn, 1)) : wq_Snd p l e R s m args below meth c nL cs D cl A Ag (wq_Q cs D cl A Ag rt xt below s mc ms) pc (wq_ireturn mc ms rt) := by
  intro L S w n1 n2 h ad ls H locs hA hl hP hD hS
  unfold wq_ireturn at h
  split at h
  · rename_i v
    have h := wq_le2 h
    exact W.widen h.1 h.2.1 (wq_toMQ (W.iret (hlocks := hlk) h0.1 h0.2 hr (fun t ht hW => ⟨_, rfl, some (.inl (.int v)), w, ad, h.2.2, hA, rfl, by rw [ht]; exact hP, hD, hS.F ht⟩) hS.2.2 hd))
  · exact h.elim
theorem wq_zreturn_ok (h0 : p.tables.exec = Jvm.exec ∧ c.code = cc) (hr : meth.sig.returnType = some .boolean) (hlk : meth.locks = false) (hd : decode cc pc = .ok (.ireturn, 1)) : wq_Snd p l e R s m args below meth c nL cs D cl A Ag (wq_Q cs D cl A Ag rt xt below s mc ms) pc (wq_zreturn mc ms rt) := by
  intro L S w n1 n2 h ad ls H locs hA hl hP hD hS
  unfold wq_zreturn at h
  split at h
  · rename_i v
    have hn : narrow .boolean (.int v) = .int v := by
      rcases h.1 with e1 | e1
      · rw [e1]; rfl
      · rw [e1]; rfl
    have h := And.intro h.1 (wq_le2 h.2)
    exact W.widen h.2.1 h.2.2.1 (wq_toMQ (W.zret (hlocks := hlk) h0.1 h0.2 hr hn (fun t ht hW => ⟨_, rfl, some (.inl (.int v)), w, ad, h.2.2.2, hA, rfl, by rw [ht]; exact hP, hD, hS.F ht⟩) hS.2.2 hd))
  · exact h.elim
theorem wq_lreturn_ok (h0 : p.tables.exec = Jvm.exec ∧ c.code = cc) (hr : meth.sig.returnType = some .long) (hlk : meth.locks = false) (hd : decode cc pc = .ok (.lreturn, 1)) : wq_Snd p l e R s m args below meth c nL cs D cl A Ag (wq_Q cs D cl A Ag rt xt below s mc ms) pc (wq_lreturn mc ms rt) := by
  intro L S w n1 n2 h ad ls H locs hA hl hP hD hS
  unfold wq_lreturn at h
  split at h
  · rename_i v
    have h := wq_le2 h
    exact W.widen h.1 h.2.1 (wq_toMQ (W.lret (hlocks := hlk) h0.1 h0.2 hr (fun t ht hW => ⟨_, rfl, some (.inl (.long v)), w, ad, h.2.2, hA, rfl, by rw [ht]; exact hP, hD, hS.F ht⟩) hS.2.2 hd))
  · exact h.elim
theorem wq_vreturn_ok (h0 : p.tables.exec = Jvm.exec ∧ c.code = cc) (hr : meth.sig.returnType = none) (hlk : meth.locks = false) (hd : decode cc pc = .ok (.return_, 1)) : wq_Snd p l e R s m args below meth c nL cs D cl A Ag (wq_Q cs D cl A Ag rt xt below s mc ms) pc (wq_vreturn mc ms rt) := by
  intro L S w n1 n2 h ad ls H locs hA hl hP hD hS
  unfold wq_vreturn at h
  split at h
  · have h := wq_le2 h
    exact W.widen h.1 h.2.1 (wq_toMQ (W.vret (hlocks := hlk) h0.1 h0.2 hr (fun t ht hW => ⟨_, rfl, none, w, ad, h.2.2, hA, rfl, by rw [ht]; exact hP, hD, hS.F ht⟩) hS.2.2 hd))
  · exact h.elim
def wq_throw (E mc ms : Nat) (xt : Nat → wq_W → Prop) : wq_T := fun _ S w n1 n2 => match S with
  | [] => wq_le (n1 + 1) mc (wq_le (n2 + 6) ms (xt E w))
  | _ => False
/-- the same frame, seen from here: as if its method were invoked in this heap -/
theorem wq_rebase {T : State} {cells slots : Nat} {locs : List Loc} (X : Stand p l e R s m args below meth c T locs cells slots) {R' : Room} (hf : R'.frames ≤ R.frames) (hl : R'.locals ≤ R.locals) (hc : cells + R'.cells ≤ R.cells) (hs : slots + R'.slots ≤ R.slots) :
    Stand p l e R' ((T.setVm s.vm).setFrames (.invoking m args :: below)) m args below meth c T [] 0 0 := by
  have htop : (T.setVm s.vm).topJava?.isSome := X.here.top
  have hF : ((T.setVm s.vm).setFrames (.invoking m args :: below)).frames = .invoking m args :: below := State.frames_setFrames _ (State.cur_lt_of_top htop)
  obtain ⟨g₀, hg0⟩ := Option.isSome_iff_exists.mp htop
  obtain ⟨r, hr⟩ := State.topJava?_eq_some.mp hg0
  have hl9 : e.platform.stackLimits (T.setVm s.vm).me = e.platform.stackLimits s.me := X.limits
  have hb9 : (T.setVm s.vm).me.stackBytes = s.me.stackBytes := X.bytes
  have hnil : ((T.heap.toList.drop T.heap.size).map (·.slots.size)).sum = 0 := by
    rw [List.drop_eq_nil_of_le (Nat.le_of_eq Array.length_toList)]; rfl
  refine ⟨X.admits, X.cas, X.clock, hF, ?_, X.hears, X.method, X.code, X.here, X.tail, X.warmed, by rw [State.stackLimits_setFrames]; rfl, by rw [State.stackBytes_setFrames]; rfl, ?_⟩
  · have h := X.room
    have hU : ((T.setVm s.vm).setFrames (.invoking m args :: below)).localsInUse = s.localsInUse := by
      rw [State.localsInUse_invoking hF (meth := meth) (c := c) X.method X.code, State.localsInUse_invoking X.frames X.method X.code]
    simp only [State.hasRoom, Bool.and_eq_true, decide_eq_true_eq] at h ⊢
    obtain ⟨⟨⟨⟨h1, h2, h3, h4, h5, h6⟩, h7⟩, h8⟩, h9⟩ := h
    rw [X.frames, List.length_cons] at h2 h3
    have q1 := X.heapSize
    have q2 := X.used
    simp only [hF, hU, List.length_cons, State.stackLimits_setFrames, State.stackBytes_setFrames, hl9, hb9]
    refine ⟨⟨⟨⟨by omega, by omega, by omega, by omega, by omega, h6⟩, ?_⟩, ?_⟩, X.book⟩
    · show T.heap.size + R'.cells ≤ e.platform.maxCells
      omega
    · show T.slotsUsed + R'.slots ≤ e.platform.maxSlots
      omega
  · refine ⟨?_, Nat.le_refl _, Nat.le_refl _, ?_, Nat.le_of_eq hnil, fun a c9 h9 => ⟨c9, h9, rfl, rfl, fun _ _ => rfl⟩⟩
    · obtain ⟨t, ht, -⟩ := State.frames_cons hr
      show T.setVm s.vm = { ((T.setVm s.vm).setFrames (.invoking m args :: below)).setFrames (T.setVm s.vm).frames with heap := T.heap, slotsUsed := T.slotsUsed }
      rw [State.setFrames_setFrames, State.setFrames_self ht]
      rfl
    · show T.slotsUsed = T.slotsUsed + ((T.heap.toList.drop T.heap.size).map (·.slots.size)).sum
      rw [hnil]; rfl
theorem wq_fresh {U : State} {k n : Nat} {locs : List Loc} (h : s.sameButNew ({ U with vm := s.vm } : State) locs k n) (hlo : ∀ z ∈ locs, False) : s.heap.size ≤ U.heap.size ∧ ∀ q : Nat, q < s.heap.size → U.heap[q]? = s.heap[q]? := by
  obtain ⟨-, h2, -, -, -, h6⟩ := h
  refine ⟨h2, fun q hq => ?_⟩
  obtain ⟨c9, e1, e2, e3, e4⟩ := h6 q _ (Array.getElem?_eq_getElem hq)
  have hs : c9.slots = (s.heap[q]).slots := Array.ext_getElem? fun i => e4 i fun hm => hlo _ hm
  have h9 : c9 = s.heap[q] := by
    rw [hs] at e2
    exact e2
  have e5 : U.heap[q]? = some c9 := e1
  rw [e5, h9, Array.getElem?_eq_getElem hq]
/-- the words of a throw that speak of the heap -/
def wq_hw (w : Cond) : Bool := decide (w = .isRef (.static Bundle.tN "UNASSIGNED_STACK" Bundle.steD)) || (decide (w = .isRef (.static Bundle.tN "SUPPRESSED_SENTINEL" Bundle.listD)) || (decide (w = .laysStatic Bundle.tN "UNASSIGNED_STACK" Bundle.steD) || decide (w = .laysStatic Bundle.tN "SUPPRESSED_SENTINEL" Bundle.listD)))
theorem wq_hw_of {A : Nat → Prop} {U : State} {a : Array Value} (hZ : wq_Z A U U.heap) {w : Cond} (h : wq_hw w = true) : w.before a U = true := by
  simp only [wq_hw, Bool.or_eq_true, decide_eq_true_eq] at h
  rcases h with rfl | rfl | rfl | rfl
  · exact wq_Sx_ref hZ.1
  · exact wq_Sx_ref hZ.2
  · exact wq_Sx_lays hZ.1
  · exact wq_Sx_lays hZ.2
theorem wq_throw_ok (h0 : p.tables.exec = Jvm.exec ∧ c.code = cc) (hl : l.stackTraces = false) {own : String} {names : List String} {ik ic E : Nat} {Ts : List Cond}
    (hown : s.vm.findClass own = some m.cls) (hcls : Bundle.fit (wq_en E) = true) (hnames : ∀ n ∈ names, Bundle.fit n = true) (hts : ∀ w ∈ Ts, w.before args s = true)
    (hk : Cond.classLink own ik (wq_en E) ∈ Ts ∧ (Cond.classLink own ik (wq_en E)).onTables = true) (hini : Cond.initialized (wq_en E) ∈ Ts ∧ (Cond.initialized (wq_en E)).onTables = true) (hat : ∀ w ∈ Bundle.ownAtoms0 own ic (wq_en E) names, wq_hw w = true ∨ w ∈ wq_fw ∨ (w ∈ Ts ∧ w.onTables = true))
    (hZ : wq_Z A s s.heap) (hN : wq_N s) (hml : c.maxLocals = nL)
    (d0 : decode cc pc = .ok (.new ik, 3)) (d3 : decode cc (pc + 3) = .ok (.dup, 1)) (d4 : decode cc (pc + 4) = .ok (.invokespecial ic, 3)) (d7 : decode cc (pc + 7) = .ok (.athrow, 1))
    (hout : ∀ z ∈ c.exceptionTable.toList, False) (hRf : names.length + 3 < R.frames) (hRl : 13 * (names.length + 1) + 42 ≤ R.locals) (hRc : mc ≤ R.cells) (hRs : ms ≤ R.slots) (hlk : meth.locks = false) :
    wq_Snd p l e R s m args below meth c nL cs D cl A Ag (wq_Q cs D cl A Ag rt xt below s mc ms) pc (wq_throw E mc ms xt) := by
  intro L S w n1 n2 h ad ls H locs hA hl9 hP hD hS
  unfold wq_throw at h
  split at h
  · have h := wq_le2 h
    intro T hT X
    have htr : e.platform.stackTraces = false := (show e.platform.stackTraces = l.stackTraces by rw [X.admits.platform]).trans hl
    have Y := wq_rebase X (R' := { frames := R.frames, locals := R.locals, cells := 1, slots := 6 }) (Nat.le_refl _) (Nat.le_refl _) (Nat.le_trans h.1 hRc) (Nat.le_trans h.2.1 hRs)
    obtain ⟨s', hs'⟩ : ∃ z, z = (T.setVm s.vm).setFrames (.invoking m args :: below) := ⟨_, rfl⟩
    rw [← hs'] at Y
    have hvm : s'.vm = s.vm := by rw [hs']; rfl
    have hhp : s'.heap = H := by rw [hs']; exact hT
    have hW0 : s.WarmedH s'.vm := by rw [hvm]; exact State.WarmedH.refl s
    have hZ' : wq_Z A s' s'.heap := by
      rw [hhp]; exact ⟨wq_Sx_moved hW0.alike (wq_Sx_kept hZ.1 hS.2.1), wq_Sx_moved hW0.alike (wq_Sx_kept hZ.2 hS.2.1)⟩
    have hat' : ∀ w ∈ Bundle.ownAtoms0 own ic (wq_en E) names, w.before args s' = true := fun w hw => (hat w hw).elim (fun h9 => wq_hw_of hZ' h9) (fun h9 => h9.elim (fun h8 => va_tabs (wq_fw_tab w h8) hvm.symm (hN.2.1 w h8)) (fun h8 => va_tabs h8.2 hvm.symm (hts w h8.1)))
    have hown' : s'.vm.findClass own = some m.cls := by rw [hvm]; exact hown
    have hins : (Cond.instantiable (wq_en E) 6).before args s' = true := hat' _ (by simp [Bundle.ownAtoms0])
    obtain ⟨vm₁, cX, kX, hfX, hkX, -, -, X₁, st1⟩ := Y.newCold h0.1 (own := own) (C := wq_en E) (index := ik) (n := 6) hown' (va_tabs hk.2 hvm.symm (hts _ hk.1)) hins (va_tabs hini.2 hvm.symm (hts _ hini.1))
      (g := F0 m pc ls []) rfl (by rw [h0.2]; exact d0) (Nat.le_refl _) (Nat.le_refl _)
    generalize hT1 : (T.setVm vm₁).pushCell { cls := cX, slots := kX.instanceTypes.map defaultValue, vm := .none } = T1 at X₁ st1
    have hcat : (Value.ref T.heap.size).category = 1 := rfl
    have hcellA : T1.heap[T.heap.size]? = some (freshCell cX kX) := by rw [← hT1]; exact State.heap_pushCell_size _ _
    have d3' : decode c.code (pc + 3) = .ok (.dup, 1) := by rw [h0.2]; exact d3
    obtain ⟨U, hsteps, hrun, hend, hW, hsame, ce, hce, hO⟩ := X₁.ctorThrow0 h0.1 htr (own := own) (cls := wq_en E) (names := names) (ic := ic) hown' hcls hnames hat' (fun x hx => nomatch hx) hfX hkX hcellA (by rw [hhp, hT]; exact Nat.le_refl _)
      (g := { method := m, pc := pc + 4, locals := ls, stack := [.ref T.heap.size, .ref T.heap.size], locked := none }) rfl (hl9.1.trans hml.symm) rfl rfl (rest := []) rfl
      (by rw [h0.2]; exact d4) (by rw [h0.2]; exact d7) (fun z hz => (hout z hz).elim) hRf (by show 0 + (1 + 0) + _ ≤ R.locals; omega) hlk
    obtain ⟨f1, f2⟩ := wq_fresh hsame (fun z hz => nomatch hz)
    rw [hhp] at f1 f2
    have hWs : s.WarmedH U.vm := State.WarmedH.trans hW0 hW
    have hcl : s.vm.findClass (wq_en E) = some ce.cls := by
      have h9 := hO.cls
      rw [hvm] at h9
      exact h9
    have hall : s.sameButNew ({ U with vm := s.vm } : State) locs mc ms := by
      subst hs'
      obtain ⟨e1, e2⟩ := hsame
      rw [State.setFrames_setFrames] at e1
      have h2 : (T.setVm s.vm).sameButNew ({ U with vm := s.vm } : State) [] (0 + 1) (0 + 6) := ⟨e1, e2⟩
      have h3 := X.same.trans h2
      rw [List.append_nil] at h3
      exact h3.mono h.1 h.2.1
    refine ⟨U, ?_, .threw T.heap.size, hrun, hend, locs, hS.2.2, hWs, hall, Or.inr ⟨T.heap.size, rfl, E, w, ad, ce, h.2.2, hA, hce, hO.vm, hcl, wq_P_kept hP f2, hD, Nat.le_trans hS.1 f1, fun q hq1 hq2 => ?_⟩⟩
    · refine st1 _ ?_
      show Steps p.tables e below (T1.setTop { method := m, pc := pc + 3, locals := ls, stack := [.ref T.heap.size], locked := none }) _
      jvm_step X₁.here [X₁.here.top, h0.1, d3', Value.category]
      exact hsteps
    · rw [f2 q (Nat.lt_of_lt_of_le hq1 hS.1)]
      exact hS.2.1 q hq1 hq2
  · exact h.elim
/-- an exception that comes up at pc -/
def wq_Xok (p : Program) (l : Launch) (e : Env) (R : Room) (s : State) (m : MethodId) (args : Array Value) (below : List Frame) (meth : Method) (c : Code) (nL : Nat) (cs : Nat → ClassId) (D : va_G) (cl : List vw_C) (A : Nat → Prop) (Ag : wq_Ad → Prop) (Q : State → Prop) (pc : Nat) (xt : wq_L → Nat → wq_W → Nat → Nat → Prop) : Prop :=
  ∀ (L : wq_L) (E : Nat) (w : wq_W) (n1 n2 : Nat), xt L E w n1 n2 → ∀ (ad : wq_Ad) (ls : Array Slot) (H : Heap) (locs : List Loc) (rest : List Value) (q : Addr) (ce : Cell), Ag ad → wq_hl ad ls nL L → wq_P cs D cl ad w H → wq_D A ad w → va_S A s.heap H locs → H[q]? = some ce → ce.vm = .none → s.vm.findClass (wq_en E) = some ce.cls →
    wq_Th p l e R s m args below meth c H locs n1 n2 Q (F0 m pc ls rest) q
def wq_xout (mc ms : Nat) (x : Nat → wq_W → Prop) : wq_L → Nat → wq_W → Nat → Nat → Prop := fun _ E w n1 n2 => wq_le n1 mc (wq_le n2 ms (x E w))
theorem wq_xout_ok (hout : ∀ z ∈ c.exceptionTable.toList, False) (hlk : meth.locks = false) : wq_Xok p l e R s m args below meth c nL cs D cl A Ag (wq_Q cs D cl A Ag rt xt below s mc ms) pc (wq_xout mc ms xt) := by
  intro L E w n1 n2 h ad ls H locs rest q ce hA hl hP hD hS h1 h2 h3
  have h := wq_le2 h
  refine wq_Th_out (fun z hz => (hout z hz).elim) hlk (fun t ht hv => ?_) hS.2.2 h.1 h.2.1
  exact ⟨E, w, ad, ce, h.2.2, hA, by rw [ht]; exact h1, h2, h3, by rw [ht]; exact hP, hD, hS.F ht⟩
def wq_popn (n : Nat) (S acc : List wq_V) (k : List wq_V → List wq_V → Prop) : Prop := match n, S with
  | 0, S => k acc S
  | n + 1, v :: S => wq_popn n S (v :: acc) k
  | _ + 1, [] => False
theorem wq_popn_ok (ad : wq_Ad) (n : Nat) : ∀ (S acc : List wq_V) (k : List wq_V → List wq_V → Prop), wq_popn n S acc k → ∃ as rest, k as rest ∧ as.length = n + acc.length ∧ (acc.map (wq_v ad)).reverse ++ S.map (wq_v ad) = (acc.map (wq_v ad)).reverse ++ S.map (wq_v ad) ∧ ((as.map (wq_v ad)).reverse ++ rest.map (wq_v ad) = (acc.map (wq_v ad)).reverse ++ S.map (wq_v ad) → True) ∧ ∃ bs, as = bs.reverse ++ acc ∧ S = bs ++ rest := by
  induction n with
  | zero => intro S acc k h; exact ⟨acc, S, h, by omega, rfl, fun _ => trivial, [], rfl, rfl⟩
  | succ n ih =>
    intro S acc k h
    rcases S with _ | ⟨v, S⟩
    · exact h.elim
    · obtain ⟨as, rest, h1, h2, -, -, bs, h3, h4⟩ := ih S (v :: acc) k h
      exact ⟨as, rest, h1, by rw [h2, List.length_cons]; omega, rfl, fun _ => trivial, v :: bs, by rw [h3]; simp, by rw [h4]; rfl⟩
def wq_tl (r : Option wq_V) (S : List wq_V) : List wq_V := match r with
  | none => S
  | some v => v :: S
def wq_call (sp : wq_S) (na mc ms Rc Rs : Nat) (xt : wq_L → Nat → wq_W → Nat → Nat → Prop) (k : wq_T) : wq_T := fun L S w n1 n2 =>
  wq_popn na S [] (fun as rest => cond (Nat.ble (wq_sm rest) 8) (wq_le (n1 + mc) Rc (wq_le (n2 + ms) Rs (sp as w (fun r w' => k L (wq_tl r rest) w' (n1 + mc) (n2 + ms)) (fun E w' => xt L E w' (n1 + mc) (n2 + ms))))) False)
def wq_RunOK (p : Program) (l : Launch) (e : Env) (R : Room) (s : State) (m : MethodId) (args : Array Value) (below : List Frame) (meth : Method) (c : Code) (nL : Nat) (cs : Nat → ClassId) (D : va_G) (cl : List vw_C) (A : Nat → Prop) (G : wq_Ad → wq_W → wq_Ad → Prop) (sp : wq_S) (na mc ms pc : Nat) : Prop :=
  ∀ (ad : wq_Ad) (as rest : List wq_V) (w : wq_W) (k : Option wq_V → wq_W → Prop) (x : Nat → wq_W → Prop) (ls : Array Slot) (H : Heap) (locs : List Loc) (n1 n2 : Nat), sp as w k x → as.length = na → ls.size = nL → wq_P cs D cl ad w H → wq_D A ad w → va_S A s.heap H locs → wq_sm rest ≤ 8 → n1 + mc ≤ R.cells → n2 + ms ≤ R.slots →
    wq_Run p l e R s m args below meth c H locs n1 n2 mc ms (F0 m pc ls ((as.map (wq_v ad)).reverse ++ rest.map (wq_v ad))) (rest.map (wq_v ad)) (wq_Qr cs D cl (wq_A ad w H.size) (G ad w) k) (wq_Qx cs D cl (wq_A ad w H.size) (G ad w) x) (wq_A ad w H.size)
theorem wq_A_sub {ad : wq_Ad} {w : wq_W} {H : Heap} {locs : List Loc} (hD : wq_D A ad w) (hS : va_S A s.heap H locs) (hA : ∀ q, s.heap.size ≤ q → A q) : ∀ q, wq_A ad w H.size q → A q := by
  intro q hq
  rcases hq with ⟨p, i, h1, rfl⟩ | h
  · exact hD.2 p i h1
  · exact hA q (Nat.le_trans hS.1 h)
theorem wq_keep {st₀ t T' : State} {H : Heap} {locs L : List Loc} {A1 : Nat → Prop} (h0 : st₀.heap = H) (e1 : T'.heap = t.heap) (hS : va_S A s.heap H locs) (hA : ∀ q, A1 q → A q) (hL : ∀ z ∈ L, A1 z.base) (hF : va_F A1 st₀ t) : va_S A s.heap T'.heap (locs ++ L) := by
  obtain ⟨hz, hk⟩ := hF
  rw [h0] at hz hk
  rw [e1]
  refine ⟨Nat.le_trans hS.1 hz, fun q h1 h2 => ?_, fun z hz => ?_⟩
  · rw [hk q (Nat.lt_of_lt_of_le h1 hS.1) (fun z => h2 (hA q z))]
    exact hS.2.1 q h1 h2
  · rcases List.mem_append.mp hz with h | h
    · exact hS.2.2 z h
    · exact hA _ (hL z h)
theorem wq_call_ok {k : wq_T} {sp : wq_S} {na : Nat} {xt' : wq_L → Nat → wq_W → Nat → Nat → Prop} (hA : ∀ q, s.heap.size ≤ q → A q) (hrun : wq_RunOK p l e R s m args below meth c nL cs D cl A wq_G0 sp na mc ms pc)
    (hx : wq_Xok p l e R s m args below meth c nL cs D cl A Ag Q pc xt') (hk : wq_Snd p l e R s m args below meth c nL cs D cl A Ag Q (pc + 3) k) :
    wq_Snd p l e R s m args below meth c nL cs D cl A Ag Q pc (wq_call sp na mc ms R.cells R.slots xt' k) := by
  intro L S w n1 n2 h ad ls H locs hAg hl hP hD hS
  unfold wq_call at h
  obtain ⟨as, rest, h1, h2, -, -, bs, h3, h4⟩ := wq_popn_ok ad na S [] _ h
  have hsm : wq_sm rest ≤ 8 := by
    cases hb : Nat.ble (wq_sm rest) 8 with
    | true => exact Nat.le_of_ble_eq_true hb
    | false => rw [hb] at h1; exact h1.elim
  rw [Nat.ble_eq_true_of_le hsm, cond_true] at h1
  obtain ⟨hc, hs, hsp⟩ := wq_le2 h1
  have hst : S.map (wq_v ad) = (as.map (wq_v ad)).reverse ++ rest.map (wq_v ad) := by
    rw [h4, h3]; simp
  have hr := hrun ad as rest w _ _ ls H locs n1 n2 hsp (by simpa using h2) hl.1 hP hD hS hsm hc hs
  have hsub := wq_A_sub hD hS hA
  rw [hst]
  intro T hT X
  obtain ⟨st₀, t, T', L', e0, hal, X', hL, e1, e2, hq⟩ := hr T hT X
  rcases hq with ⟨v, ⟨r, w', ad', hk', hG, ho, hP', hD', hF⟩, st⟩ | ⟨q, ⟨E', w', ad', ce, hx', hG, hce, hcv, hcl, hP', hD', hF⟩, st⟩
  · cases hG
    subst ho
    have k3 := wq_keep e0 e1 hS hsub hL hF
    obtain ⟨t2, a1, b1⟩ := hk _ _ _ _ _ hk' ad ls T'.heap (locs ++ L') hAg hl (by rw [e1]; exact hP') ⟨hD'.1, fun p i hi => hsub _ (hD'.2 p i hi)⟩ k3 T' rfl X'
    refine ⟨t2, st t2 ?_, b1⟩
    cases r with
    | none => exact a1
    | some v => exact a1
  · cases hG
    have k3 := wq_keep e0 e1 hS hsub hL hF
    obtain ⟨t2, a1, b1⟩ := hx _ _ _ _ _ hx' ad ls T'.heap (locs ++ L') (rest.map (wq_v ad)) q ce hAg hl (by rw [e1]; exact hP') ⟨hD'.1, fun p i hi => hsub _ (hD'.2 p i hi)⟩ k3 (by rw [e1]; exact hce) hcv (by rw [← hal.findClass]; exact hcl) T' rfl X'
    exact ⟨t2, st.trans a1, b1⟩
theorem wq_Pc_blind {ad : wq_Ad} {as : List wq_V} {w : wq_W} {sz : Nat} : FrameBlind (wq_Pc cs D cl ad as w sz) := by
  intro a U g mk h
  obtain ⟨h1, h2, h3, h4, h5, h6, h7⟩ := h
  exact ⟨h1, h2, h3, va_K.moved (u := U) (U := U.calling g mk a) (Vm.Alike.refl U.vm) h4, h5, ⟨wq_Sx_moved (u := U) (U := U.calling g mk a) (Vm.Alike.refl U.vm) h6.1, wq_Sx_moved (u := U) (U := U.calling g mk a) (Vm.Alike.refl U.vm) h6.2⟩, wq_N_moved (u := U) (U := U.calling g mk a) (State.WarmedH.refl U) h7⟩
theorem wq_Pc_of {ad : wq_Ad} {as : List wq_V} {w : wq_W} {H : Heap} {locs : List Loc} (hK : va_K D cl (wq_tys cs) s) (hZ : wq_Z A s s.heap) (hN : wq_N s) (hA : ∀ q, s.heap.size ≤ q → A q) (hP : wq_P cs D cl ad w H) (hD : wq_D A ad w) (hS : va_S A s.heap H locs) (U : State) (hU : U.heap = H) (hW : s.WarmedH U.vm) : wq_Pc cs D cl ad as w H.size (as.map (wq_v ad)).toArray U := by
  have hsub := wq_A_sub hD hS hA
  refine ⟨rfl, by rw [hU], by rw [hU]; exact hP, va_K.moved hW.alike hK, ⟨hD.1, fun p i hi => Or.inl ⟨p, i, hi, rfl⟩⟩, ?_, wq_N_moved hW hN⟩
  rw [hU]
  exact ⟨wq_Sx_narrow (wq_Sx_moved hW.alike (wq_Sx_kept hZ.1 hS.2.1)) hsub, wq_Sx_narrow (wq_Sx_moved hW.alike (wq_Sx_kept hZ.2 hS.2.1)) hsub⟩
def wq_rv (ci : Nat) (sp : wq_S) : wq_S := fun as w k x => match as with
  | .inl (.ref p) :: _ => match wq_n w p with
    | some (.inr (.inl o)) => cond (Nat.beq o.1 ci) (sp as w k x) False
    | _ => False
  | _ => False
theorem wq_rv_ok {ci : Nat} {sp : wq_S} {as : List wq_V} {w : wq_W} {k : Option wq_V → wq_W → Prop} {x : Nat → wq_W → Prop} (h : wq_rv ci sp as w k x) : ∃ p as' fs, as = .inl (.ref p) :: as' ∧ wq_n w p = some (.inr (.inl (ci, fs))) ∧ sp as w k x := by
  unfold wq_rv at h
  split at h
  · rename_i p as'
    split at h
    · rename_i o hg
      cases hb : Nat.beq o.1 ci with
      | true =>
        rw [hb] at h
        have e1 : o.1 = ci := Nat.eq_of_beq_eq_true hb
        exact ⟨p, as', o.2, rfl, by rw [hg, ← e1], h⟩
      | false => rw [hb] at h; exact h.elim
    · exact h.elim
  · exact h.elim
variable {y : MethodName} {bytes : ByteArray} {maxL n index : Nat} {ret : Option FieldType} {ws : List Cond} {rm : Room} {Ts : List Cond} {own C : String} {G : wq_Ad → wq_W → wq_Ad → Prop} {sp : wq_S}
theorem wq_runV {ci : Nat} {q : vw_C} (S : CallFix p m c cc nL s args Ts own) (hV : wq_Vld l cl y ws rm G sp mc ms) (cw : CallW R s args own C index y bytes maxL ret ws rm mc ms n) (hc : cl[ci]? = some q) (hC : q.1 = C) (hK : va_K D cl (wq_tys cs) s) (hZ : wq_Z A s s.heap) (hN : wq_N s) (hA : ∀ q, s.heap.size ≤ q → A q) (hd : decode cc pc = .ok (.invokevirtual index, 3)) :
    wq_RunOK p l e R s m args below meth c nL cs D cl A G (wq_rv ci sp) (n + 1) mc ms pc := by
  intro ad as rest w k x ls H locs n1 n2 hsp hn hsz hP hD hS hsm h1 h2
  obtain ⟨b, as', fs, rfl, hb, hsp⟩ := wq_rv_ok hsp
  refine wq_rV (As := as'.map (wq_v ad)) (b := ad b 0) S (hV cs D ad _ w H.size k x hsp) cw ⟨wq_Pc_blind, ?_, fun U hU hW => wq_Pc_of (locs := locs) hK hZ hN hA hP hD hS U hU hW⟩ rfl (by rw [List.length_map]; simpa using hn) hsz ?_ (lv_room (by rw [wq_sm_map]; exact hsm)) hd ⟨h1, h2⟩
  · have := va_recv (q0 := 0) (ci := ci) (q := q) hK (wq_one (D := D) (cl := cl) (q := (ad b 0, .inr (ci, fs.map (wq_v ad)))) (hP b _ hb)) hc rfl
    rw [hC] at this
    exact this
  · show (List.map (wq_v ad) (.inl (.ref b) :: as')).reverse ++ _ = _
    simp [wq_v]
theorem wq_runS (S : CallFix p m c cc nL s args Ts own) (hV : wq_Vld l cl y ws rm G sp mc ms) (cw : CallB R s args own index y bytes maxL ret ws rm mc ms n ∧ (Cond.static y).before args s = true) (hK : va_K D cl (wq_tys cs) s) (hZ : wq_Z A s s.heap) (hN : wq_N s) (hA : ∀ q, s.heap.size ≤ q → A q) (hd : decode cc pc = .ok (.invokestatic index, 3)) :
    wq_RunOK p l e R s m args below meth c nL cs D cl A G sp n mc ms pc := by
  intro ad as rest w k x ls H locs n1 n2 hsp hn hsz hP hD hS hsm h1 h2
  exact wq_rS (As := as.map (wq_v ad)) S (hV cs D ad _ w H.size k x hsp) cw ⟨wq_Pc_blind, fun U hU hW => wq_Pc_of (locs := locs) hK hZ hN hA hP hD hS U hU hW⟩ rfl (by rw [List.length_map]; exact hn) hsz rfl (lv_room (by rw [wq_sm_map]; exact hsm)) hd ⟨h1, h2⟩
theorem wq_loop {Snd : Nat → wq_T → Prop} {at_ : Nat → wq_T} (hS : ∀ pc t, (∀ L S w a b, t L S w a b → at_ pc L S w a b) ↔ Snd pc t) (bk : Nat → (Nat → wq_T) → wq_T) (hd : Nat → Prop) (hs : ∀ K : Nat → wq_T, (∀ pc, hd pc → Snd pc (K pc)) → ∀ pc, hd pc → Snd pc (bk pc K)) (J : Nat → Nat → wq_T)
    (hJ : ∀ n pc, hd pc → ∀ L S w a b, J n pc L S w a b → bk pc (fun pc' L' S' w' a' b' => ∃ n', n' < n ∧ J n' pc' L' S' w' a' b') L S w a b) : ∀ n pc, hd pc → Snd pc (J n pc) := by
  intro n
  induction n using Nat.strongRecOn with
  | ind n ih =>
    intro pc hp
    have hK : ∀ pc', hd pc' → Snd pc' (fun L' S' w' a' b' => ∃ n', n' < n ∧ J n' pc' L' S' w' a' b') := fun pc' hp' => (hS pc' _).mp fun L S w a b h => by
      obtain ⟨n', h1, h2⟩ := h
      exact (hS pc' _).mpr (ih n' h1 pc' hp') L S w a b h2
    exact (hS pc _).mp fun L S w a b h => (hS pc _).mpr (hs _ hK pc hp) L S w a b (hJ n pc hp L S w a b h)
end WQR
