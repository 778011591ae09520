/-! More rows: fields, constructors and nest mates, switches, Math, handlers. -/
section WQX
variable {p : Program} {l : Launch} {e : Env} {R : Room} {s : State} {m : MethodId} {args : Array Value} {below : List Frame} {meth : Method} {c : Code} {H : Heap} {locs : List Loc} {cells slots : Nat}
variable {Qr : State → Option Value → State → Prop} {Qx : State → Addr → State → Prop} {mc ms : Nat} {free : Addr → Prop} {Pc : Array Value → State → Prop} {ws : List Cond} {rm : Room} {y : MethodName}
variable {cc bytes : ByteArray} {nL maxL index n : Nat} {own C host : String} {ret : Option FieldType} {Ts : List Cond} {b : Addr} {As rest : List Value} {g : JFrame}
theorem wq_par {y : MethodName} {n : Nat} (hd : (parseMethodDescriptor y.desc).map (fun d => d.parameters.length) = some n) : ∀ sig, parseMethodDescriptor y.desc = some sig → n = sig.parameters.length := fun sig h => by
  rw [h] at hd
  exact (Option.some.inj hd).symm
theorem wq_cB (hts : ∀ w ∈ Ts, w.before args s = true) (hG : GoodIn Ts ws) (hcode : Cond.code y bytes maxL ret ∈ ws) (hini : Cond.initialized y.cls ∈ Ts) (hlink : Cond.methodLink own index y ∈ Ts) (hd : y.cls ≠ "java/lang/invoke/MethodHandle" ∧ y.cls ≠ "java/lang/invoke/VarHandle" ∧ (parseMethodDescriptor y.desc).map (fun d => d.parameters.length) = some n) (hrc : rm.cells = mc) (hrs : rm.slots = ms) (hR : rm.frames + 1 ≤ R.frames ∧ 8 + (maxL + 11) + rm.locals ≤ R.locals) : CallB R s args own index y bytes maxL ret ws rm mc ms n :=
  ⟨hrc, hrs, hR.1, hR.2, pay_in hts hG, hcode, hts _ (hG _ hcode).1, hts _ hini, ⟨hd.1, hd.2.1⟩, wq_par hd.2.2, hts _ hlink⟩
theorem wq_cN (hts : ∀ w ∈ Ts, w.before args s = true) (hG : GoodIn Ts ws) (hcode : Cond.code y bytes maxL ret ∈ ws) (hini : Cond.initialized y.cls ∈ Ts) (hlink : (Cond.methodLinkNest own index y host).before args s = true) (hd : y.cls ≠ "java/lang/invoke/MethodHandle" ∧ y.cls ≠ "java/lang/invoke/VarHandle" ∧ (parseMethodDescriptor y.desc).map (fun d => d.parameters.length) = some n) (hrc : rm.cells = mc) (hrs : rm.slots = ms) (hR : rm.frames + 1 ≤ R.frames ∧ 8 + (maxL + 11) + rm.locals ≤ R.locals) : va_CN R s args own index y host bytes maxL ret ws rm mc ms n :=
  ⟨⟨hrc, hrs, hR.1, hR.2, pay_in hts hG, hcode⟩, hts _ (hG _ hcode).1, hts _ hini, ⟨hd.1, hd.2.1⟩, wq_par hd.2.2, hlink⟩
theorem wq_rSN (S : CallFix p m c cc nL s args Ts own) (hM : wq_Met l y ws rm Pc Qr Qx mc ms free) (cw : va_CN R s args own index y host bytes maxL ret ws rm mc ms n ∧ (Cond.static y).before args s = true) (hp : PreS s H Pc As)
    (hg : g.method = m) (hn : As.length = n) (hsize : g.locals.size = nL) (hstack : g.stack = As.reverse ++ rest) (hW : 2 * g.monitorRoom + (rest.map fun v => v.category).sum ≤ 8) (hdg : decode cc g.pc = .ok (.invokestatic index, 3)) (hf : cells + mc ≤ R.cells ∧ slots + ms ≤ R.slots) :
    wq_Run p l e R s m args below meth c H locs cells slots mc ms g rest Qr Qx free := by
  obtain ⟨⟨⟨hrc, hrs, hfr, hlo, hws, -⟩, hcode, hini, hy, hlen, hl⟩, hstt⟩ := cw
  obtain ⟨hx, hb, hml, ho, -⟩ := S
  intro T hT X
  obtain ⟨mk, hnamed⟩ := Cond.code_named hcode
  obtain ⟨methM, cM, hmethM, hcM, -, hlM, -, -, -, hsigM⟩ := Cond.code_spec hnamed hcode
  have hstatic : methM.isStatic = true := Cond.static_spec hnamed hmethM hstt
  obtain ⟨kP, hkP, -⟩ := className_of_methodNamed hnamed
  have hinitP : kP.init = .initialized := Cond.initialized_spec (findClass_of_methodNamed hnamed) hkP hini
  subst hb
  obtain ⟨vm₁, X₁, hstep₁⟩ := X.invokestaticNest hx ho hl hnamed hmethM hstatic hkP hinitP hy (g := g) hg (argsL := As) (rest := rest) (hn.trans (hlen _ hsigM)) hstack hdg
  have hal := X₁.warmed.alike
  obtain ⟨t, B, L, X', hL, e1, e2, hq⟩ := wq_pay X₁ hM (g := { g with stack := rest }) (mk := mk) (a := As.toArray) (maxL := maxL) hg (hsize.trans hml.symm) hdg hW (X₁.named hnamed) (hal.method? mk ▸ hmethM) hcM hlM (word_at X₁.warmed (Or.inl (by first | rfl | simp [Cond.onTables, Cond.keeps, Cond.steady])) hini) (fun w hw => hws w hw _ _ X₁.warmed)
    (hp.1 _ _ _ _ (hp.2 (T.setVm vm₁) hT X₁.warmed)) hfr hlo (by rw [hrc]; exact hf.1) (by rw [hrs]; exact hf.2)
  refine ⟨(T.setVm vm₁).calling { g with stack := rest } mk As.toArray, t, B, L, hT, hal, X', hL, e1, e2, ?_⟩
  rcases hq with ⟨v, h1, h2⟩ | ⟨q, h1, h2⟩
  · exact Or.inl ⟨v, h1, fun tg h3 => hstep₁ _ fun acts => by rw [doInvoke_state]; exact h2.trans h3⟩
  · exact Or.inr ⟨q, h1, hstep₁ _ fun acts => by rw [doInvoke_state]; exact h2⟩
theorem wq_rI (S : CallFix p m c cc nL s args Ts own) (hM : wq_Met l y ws rm Pc Qr Qx mc ms free) (cw : CallB R s args own index y bytes maxL none ws rm mc ms n ∧ y.name = "<init>" ∧ (Cond.instanceMethod y).before args s = true) (hp : PreS s H Pc (.ref b :: As))
    (hg : g.method = m) (hn : As.length = n) (hsize : g.locals.size = nL) (hstack : g.stack = As.reverse ++ .ref b :: rest) (hW : 2 * g.monitorRoom + (rest.map fun v => v.category).sum ≤ 8) (hdg : decode cc g.pc = .ok (.invokespecial index, 3)) (hf : cells + mc ≤ R.cells ∧ slots + ms ≤ R.slots) :
    wq_Run p l e R s m args below meth c H locs cells slots mc ms g rest Qr Qx free := by
  obtain ⟨⟨hrc, hrs, hfr, hlo, hws, -, hcode, hini, hy, hlen, hl⟩, hy1, hin⟩ := cw
  obtain ⟨hx, hb, hml, ho, -⟩ := S
  intro T hT X
  subst hb
  subst hg
  have hpl : e.platform.magicAccessors = ({} : Platform).magicAccessors := by rw [X.admits.platform]
  obtain ⟨mk, methM, cM, kP, vm₁, hnamed, hmethM, hcM, -, hlM, -, hkP, -, hW₁, hstep₁⟩ := Steps.initColdArgs (e := e) X.here hx X.warmed hpl ho hy1 hy hl hin hcode (f := g) rfl (fun sig h => hn.trans (hlen sig h)) hstack hdg
  have X₁ := X.noted hW₁
  have hal := X₁.warmed.alike
  obtain ⟨t, B, L, X', hL, e1, e2, hq⟩ := wq_pay X₁ hM (g := { g with stack := rest }) (mk := mk) (a := (Value.ref b :: As).toArray) (maxL := maxL) rfl (hsize.trans hml.symm) hdg hW (X₁.named hnamed) (hal.method? mk ▸ hmethM) hcM hlM (word_at X₁.warmed (Or.inl (by first | rfl | simp [Cond.onTables, Cond.keeps, Cond.steady])) hini) (fun w hw => hws w hw _ _ X₁.warmed)
    (hp.1 _ _ _ _ (hp.2 (T.setVm vm₁) hT X₁.warmed)) hfr hlo (by rw [hrc]; exact hf.1) (by rw [hrs]; exact hf.2)
  refine ⟨(T.setVm vm₁).calling { g with stack := rest } mk (Value.ref b :: As).toArray, t, B, L, hT, hal, X', hL, e1, e2, ?_⟩
  rcases hq with ⟨v, h1, h2⟩ | ⟨q, h1, h2⟩
  · exact Or.inl ⟨v, h1, fun tg h3 => hstep₁ _ fun acts => by rw [doInvoke_state]; exact h2.trans h3⟩
  · exact Or.inr ⟨q, h1, hstep₁ _ fun acts => by rw [doInvoke_state]; exact h2⟩
theorem wq_rIN (S : CallFix p m c cc nL s args Ts own) (hM : wq_Met l y ws rm Pc Qr Qx mc ms free) (cw : va_CN R s args own index y host bytes maxL none ws rm mc ms n ∧ y.name = "<init>" ∧ (Cond.instanceMethod y).before args s = true) (hp : PreS s H Pc (.ref b :: As))
    (hg : g.method = m) (hn : As.length = n) (hsize : g.locals.size = nL) (hstack : g.stack = As.reverse ++ .ref b :: rest) (hW : 2 * g.monitorRoom + (rest.map fun v => v.category).sum ≤ 8) (hdg : decode cc g.pc = .ok (.invokespecial index, 3)) (hf : cells + mc ≤ R.cells ∧ slots + ms ≤ R.slots) :
    wq_Run p l e R s m args below meth c H locs cells slots mc ms g rest Qr Qx free := by
  obtain ⟨⟨⟨hrc, hrs, hfr, hlo, hws, -⟩, hcode, hini, hy, hlen, hl⟩, hy1, hin⟩ := cw
  obtain ⟨hx, hb, hml, ho, -⟩ := S
  intro T hT X
  subst hb
  subst hg
  have hpl : e.platform.magicAccessors = ({} : Platform).magicAccessors := by rw [X.admits.platform]
  obtain ⟨mk, methM, cM, kP, vm₁, hnamed, hmethM, hcM, -, hlM, -, hkP, -, hW₁, hstep₁⟩ := Steps.initColdArgsNest (e := e) X.here hx X.warmed hpl ho hy1 hy hl hin hcode (f := g) rfl (fun sig h => hn.trans (hlen sig h)) hstack hdg
  have X₁ := X.noted hW₁
  have hal := X₁.warmed.alike
  obtain ⟨t, B, L, X', hL, e1, e2, hq⟩ := wq_pay X₁ hM (g := { g with stack := rest }) (mk := mk) (a := (Value.ref b :: As).toArray) (maxL := maxL) rfl (hsize.trans hml.symm) hdg hW (X₁.named hnamed) (hal.method? mk ▸ hmethM) hcM hlM (word_at X₁.warmed (Or.inl (by first | rfl | simp [Cond.onTables, Cond.keeps, Cond.steady])) hini) (fun w hw => hws w hw _ _ X₁.warmed)
    (hp.1 _ _ _ _ (hp.2 (T.setVm vm₁) hT X₁.warmed)) hfr hlo (by rw [hrc]; exact hf.1) (by rw [hrs]; exact hf.2)
  refine ⟨(T.setVm vm₁).calling { g with stack := rest } mk (Value.ref b :: As).toArray, t, B, L, hT, hal, X', hL, e1, e2, ?_⟩
  rcases hq with ⟨v, h1, h2⟩ | ⟨q, h1, h2⟩
  · exact Or.inl ⟨v, h1, fun tg h3 => hstep₁ _ fun acts => by rw [doInvoke_state]; exact h2.trans h3⟩
  · exact Or.inr ⟨q, h1, hstep₁ _ fun acts => by rw [doInvoke_state]; exact h2⟩
end WQX
theorem wq_hl_d1x {ad : wq_Ad} {ls : Array Slot} {nL i : Nat} {L : wq_L} {v : Value} (h : lv_has ls nL ((i, v) :: (L.map (fun q => (q.1, wq_v ad q.2))).filter (fun q => !(q.1 == i) && !(q.1 + 1 == i && q.2.category == 2)))) : wq_hl ad ls nL (wq_d1 i L) := by
  refine ⟨h.1, h.2.1, fun q hq => ?_⟩
  obtain ⟨z, hz, rfl⟩ := List.mem_map.mp hq
  obtain ⟨h1, h2, h3⟩ := wq_d1_mem hz
  refine h.2.2 _ (List.mem_cons_of_mem _ (List.mem_filter.mpr ⟨List.mem_map.mpr ⟨z, h1, rfl⟩, ?_⟩))
  rw [wq_vc]
  simp only [Bool.and_eq_true, Bool.not_eq_true', beq_eq_false_iff_ne, Bool.and_eq_false_iff, ne_eq]
  refine ⟨h2, ?_⟩
  by_cases h4 : z.1 + 1 = i
  · exact Or.inr fun h5 => h3 ⟨h4, h5⟩
  · exact Or.inl h4
section WQY
variable {p : Program} {l : Launch} {e : Env} {R : Room} {s : State} {m : MethodId} {args : Array Value} {below : List Frame} {meth : Method} {c : Code} {nL : Nat} {cs : Nat → ClassId} {D : va_G} {cl : List vw_C} {A : Nat → Prop} {Ag : wq_Ad → Prop} {Q : State → Prop} {cc : ByteArray} {pc mc ms : Nat} {k k1 k2 : wq_T}
variable {y : MethodName} {bytes : ByteArray} {maxL n index : Nat} {ret : Option FieldType} {ws : List Cond} {rm : Room} {Ts : List Cond} {own C host : String} {G : wq_Ad → wq_W → wq_Ad → Prop} {sp : wq_S}
theorem wq_runSN (S : CallFix p m c cc nL s args Ts own) (hV : wq_Vld l cl y ws rm G sp mc ms) (cw : va_CN R s args own index y host bytes maxL ret ws rm mc ms n ∧ (Cond.static y).before args s = true) (hK : va_K D cl (wq_tys cs) s) (hZ : wq_Z A s s.heap) (hN : wq_N s) (hA : ∀ q, s.heap.size ≤ q → A q) (hd : decode cc pc = .ok (.invokestatic index, 3)) :
    wq_RunOK p l e R s m args below meth c nL cs D cl A G sp n mc ms pc := by
  intro ad as rest w k x ls H locs n1 n2 hsp hn hsz hP hD hS hsm h1 h2
  exact wq_rSN (As := as.map (wq_v ad)) S (hV cs D ad _ w H.size k x hsp) cw ⟨wq_Pc_blind, fun U hU hW => wq_Pc_of (locs := locs) hK hZ hN hA hP hD hS U hU hW⟩ rfl (by rw [List.length_map]; exact hn) hsz rfl (lv_room (by rw [wq_sm_map]; exact hsm)) hd ⟨h1, h2⟩
def wq_rc (sp : wq_S) : wq_S := fun as w k x => match as with
  | .inl (.ref _) :: _ => sp as w k x
  | _ => False
theorem wq_runI (S : CallFix p m c cc nL s args Ts own) (hV : wq_Vld l cl y ws rm G sp mc ms) (cw : CallB R s args own index y bytes maxL none ws rm mc ms n ∧ y.name = "<init>" ∧ (Cond.instanceMethod y).before args s = true) (hK : va_K D cl (wq_tys cs) s) (hZ : wq_Z A s s.heap) (hN : wq_N s) (hA : ∀ q, s.heap.size ≤ q → A q) (hd : decode cc pc = .ok (.invokespecial index, 3)) :
    wq_RunOK p l e R s m args below meth c nL cs D cl A G (wq_rc sp) (n + 1) mc ms pc := by
  intro ad as rest w k x ls H locs n1 n2 hsp hn hsz hP hD hS hsm h1 h2
  unfold wq_rc at hsp
  split at hsp
  · rename_i b as'
    refine wq_rI (As := as'.map (wq_v ad)) (b := ad b 0) S (hV cs D ad _ w H.size k x hsp) cw ⟨wq_Pc_blind, fun U hU hW => wq_Pc_of (locs := locs) hK hZ hN hA hP hD hS U hU hW⟩ rfl (by rw [List.length_map]; simpa using hn) hsz ?_ (lv_room (by rw [wq_sm_map]; exact hsm)) hd ⟨h1, h2⟩
    show (List.map (wq_v ad) (.inl (.ref b) :: as')).reverse ++ _ = _
    simp [wq_v]
  · exact hsp.elim
theorem wq_runIN (S : CallFix p m c cc nL s args Ts own) (hV : wq_Vld l cl y ws rm G sp mc ms) (cw : va_CN R s args own index y host bytes maxL none ws rm mc ms n ∧ y.name = "<init>" ∧ (Cond.instanceMethod y).before args s = true) (hK : va_K D cl (wq_tys cs) s) (hZ : wq_Z A s s.heap) (hN : wq_N s) (hA : ∀ q, s.heap.size ≤ q → A q) (hd : decode cc pc = .ok (.invokespecial index, 3)) :
    wq_RunOK p l e R s m args below meth c nL cs D cl A G (wq_rc sp) (n + 1) mc ms pc := by
  intro ad as rest w k x ls H locs n1 n2 hsp hn hsz hP hD hS hsm h1 h2
  unfold wq_rc at hsp
  split at hsp
  · rename_i b as'
    refine wq_rIN (As := as'.map (wq_v ad)) (b := ad b 0) S (hV cs D ad _ w H.size k x hsp) cw ⟨wq_Pc_blind, fun U hU hW => wq_Pc_of (locs := locs) hK hZ hN hA hP hD hS U hU hW⟩ rfl (by rw [List.length_map]; simpa using hn) hsz ?_ (lv_room (by rw [wq_sm_map]; exact hsm)) hd ⟨h1, h2⟩
    show (List.map (wq_v ad) (.inl (.ref b) :: as')).reverse ++ _ = _
    simp [wq_v]
  · exact hsp.elim
-- fields
theorem wq_getOK (h0 : p.tables.exec = Jvm.exec ∧ c.code = cc) {ref : String} {T : u_T} {N ci : Nat} {tys : List (ClassId × FieldType)} (hts : ∀ w ∈ Ts, w.before args s = true) (hin : ∀ w ∈ u_ws C T N, w ∈ Ts) (hown : s.vm.findClass own = some m.cls) (hK : va_K D cl tys s) (hc : cl[ci]? = some (C, T, N)) (j : Nat) (hj : j < N) (hlink : Cond.fieldLink own index ref (T j).2.1 (T j).2.2.1 ∈ Ts) (hr : (T j).1 = ref) : wq_GetOK p l e R s m args below meth c D cl Q cc index ci j :=
  fun H locs n1 n2 pc ls rest a fs v hat hv hd kk => va_get h0.1 h0.2 hts hin hown hK (wq_one (D := D) (cl := cl) (q := (a, .inr (ci, fs))) hat) 0 rfl hc j hj (hts _ hlink) (fun x h => by rw [← hr]; exact h) hv hd kk
def wq_isI (v : wq_V) : Bool := match v with
  | .inl (.int _) => true
  | _ => false
def wq_isL (v : wq_V) : Bool := match v with
  | .inl (.long _) => true
  | _ => false
def wq_isR (v : wq_V) : Bool := match v with
  | .inl (.ref _) => true
  | _ => false
def wq_okv (ok : wq_V → Bool) (ty : FieldType) : Prop := ∀ (ad : wq_Ad) (x : wq_V), ok x = true → narrow ty (wq_v ad x) = wq_v ad x ∧ fits ty (wq_v ad x) = true
theorem wq_okI : wq_okv wq_isI .int := by
  intro ad x h
  rcases x with v | q
  · cases v <;> first | exact ⟨rfl, rfl⟩ | cases h
  · cases h
theorem wq_okL : wq_okv wq_isL .long := by
  intro ad x h
  rcases x with v | q
  · cases v <;> first | exact ⟨rfl, rfl⟩ | cases h
  · cases h
theorem wq_okO (C : String) : wq_okv wq_isR (.object C) := by
  intro ad x h
  rcases x with v | q
  · cases v <;> first | exact ⟨rfl, rfl⟩ | cases h
  · cases h
theorem wq_okA (t : FieldType) : wq_okv wq_isR (.array t) := by
  intro ad x h
  rcases x with v | q
  · cases v <;> first | exact ⟨rfl, rfl⟩ | cases h
  · cases h
theorem wq_putOK (h0 : p.tables.exec = Jvm.exec ∧ c.code = cc) {ref : String} {T : u_T} {N ci : Nat} {tys : List (ClassId × FieldType)} {ok : wq_V → Bool} (hts : ∀ w ∈ Ts, w.before args s = true) (hin : ∀ w ∈ u_ws C T N, w ∈ Ts) (ty0 : Nat → FieldType) (hty : ∀ k, k < N → parseFieldDescriptor (T k).2.2.1 = some (ty0 k)) (hnm : ∀ a, a < N → ∀ b, b < N → a ≠ b → (T a).2.1 ≠ (T b).2.1) (hown : s.vm.findClass own = some m.cls) (hK : va_K D cl tys s) (hc : cl[ci]? = some (C, T, N)) (j : Nat) (hj : j < N) (hlink : Cond.fieldLink own index ref (T j).2.1 (T j).2.2.1 ∈ Ts) (hr : (T j).1 = ref) (hfin : (T j).2.2.2 = false ∨ ((T j).2.2.2 = true ∧ meth.name = "<init>" ∧ (T j).1 = own)) (hok : wq_okv ok (ty0 j)) : wq_PutOK p l e R s m args below meth c D cl Q cc index ci j ok := by
  intro ad H locs n1 n2 pc ls rest a fs x hx hat hl hd kk
  have hsame : ∀ z, s.fieldFound? (T j).1 (T j).2.1 (T j).2.2.1 = some z → s.fieldFound? ref (T j).2.1 (T j).2.2.1 = some z := fun z h => by rw [← hr]; exact h
  have hap := va_apart (own := own) hts hin ty0 hty hnm hK hc
  obtain ⟨r, h1, cell, q1, q2, q3, q4⟩ := hat
  have hrr : r = (C, T, N) := Option.some.inj (h1.symm.trans hc)
  subst hrr
  obtain ⟨hS, hfc, kC, hkC, hkind⟩ := hK.1 ci _ hc
  obtain ⟨cf, kf, fi, f, hi, hsl⟩ := hS j hj
  have hst := (u_facts hfc hkC (u_lays hts hin hj) hi).1
  have hlay := hts _ (hin _ (u_in_lay hj))
  unfold u_lay at hlay
  obtain ⟨hn9, hf9⟩ := hok ad x hx
  have fin : ∀ H' : Heap, H'[a]? = some (cell.setSlot f.slot (wq_v ad x)) → H'.size = H.size → (∀ q, q ≠ a → H'[q]? = H[q]?) → W p l e R s m args below meth c H' (locs ++ [⟨a, f.slot⟩]) n1 n2 Q (F0 m (pc + 3) ls rest) := fun H' e1 e2 e3 => by
    rw [hsl] at e1 ⊢
    exact kk H' _ ⟨_, hc, t_OB.to (V := updV (vp_V fs) j (wq_v ad x)) ⟨_, e1, q2, q3, t_set q4 hap hj (wq_v ad x)⟩ (fun i _ => vp_updV_set hl (wq_v ad x) i)⟩ e2 e3
  rcases hfin with hfin | ⟨hfin, hin2, hdecl⟩
  · rw [if_neg (by rw [hfin]; decide)] at hlay
    have h6 := u_store hfc hkC hkind hlay hi (hty j hj) hn9 hf9
    exact W.putK h0.1 h0.2 (f := f) ⟨hown, hts _ hlink, ⟨_, _, _, hsame _ hi⟩, hst⟩ (by rw [q2]; exact h6) q1 q3 (by rw [hsl]; exact k2_hasslot (q4 j hj)) rfl rfl hd fin
  · rw [if_pos hfin] at hlay
    have hcf : m.cls = cf := by
      obtain ⟨_, _, c', _, _, _, -, -, hf', -, -, -, hown2, -⟩ := Cond.laysFinal_spec hlay
      have e1 : c' = cf := by have h9 := hi.symm.trans hf'; simp at h9; exact h9.1.symm
      rw [hdecl] at hown2
      rw [← e1]; exact Option.some.inj (hown.symm.trans hown2)
    have h6 := u_fits hfc hkC hkind (Or.inr hlay) hi (hty j hj) hn9 hf9
    exact W.putFinK h0.1 h0.2 hown (hts _ hlink) (hsame _ hi) hst hcf hin2 (by rw [q2]; exact h6) q1 q3 (by rw [hsl]; exact k2_hasslot (q4 j hj)) rfl rfl hd fin
-- switches
def wq_sw (cases : List (Int32 × wq_T)) (d : wq_T) : wq_T := fun L S w n1 n2 => match S with
  | .inl (.int x) :: S' => match cases with
    | [] => d L S' w n1 n2
    | q :: r => (x = q.1 → q.2 L S' w n1 n2) ∧ (¬ x = q.1 → wq_sw r d L (.inl (.int x) :: S') w n1 n2)
  | _ => False
theorem wq_sw_at {x : Int32} {L : wq_L} {S : List wq_V} {w : wq_W} {n1 n2 : Nat} {d : wq_T} : ∀ (cases : List (Int32 × wq_T)), wq_sw cases d L (.inl (.int x) :: S) w n1 n2 → (∃ q ∈ cases, x = q.1 ∧ q.2 L S w n1 n2) ∨ ((∀ q ∈ cases, ¬ x = q.1) ∧ d L S w n1 n2) := by
  intro cases
  induction cases with
  | nil => intro h; exact Or.inr ⟨fun q hq => (by cases hq), h⟩
  | cons q r ih =>
    intro h
    by_cases hx : x = q.1
    · exact Or.inl ⟨q, List.mem_cons_self, hx, h.1 hx⟩
    · rcases ih (h.2 hx) with ⟨z, h1, h2⟩ | ⟨h1, h2⟩
      · exact Or.inl ⟨z, List.mem_cons_of_mem _ h1, h2⟩
      · exact Or.inr ⟨fun z hz => (List.mem_cons.mp hz).elim (fun h9 => by rw [h9]; exact hx) (h1 z), h2⟩
/-- where a switch goes: at each of its numbers, and elsewhere -/
theorem wq_sw_ok {cases : List (Int32 × wq_T)} {d : wq_T}
    (hin : ∀ q ∈ cases, ∃ tgt, wq_Snd p l e R s m args below meth c nL cs D cl A Ag Q tgt q.2 ∧ ∀ (H : Heap) (locs : List Loc) (n1 n2 : Nat) (ls : Array Slot) (rest : List Value), W p l e R s m args below meth c H locs n1 n2 Q (F0 m tgt ls rest) → W p l e R s m args below meth c H locs n1 n2 Q (F0 m pc ls (.int q.1 :: rest)))
    (hout : ∃ tgt, wq_Snd p l e R s m args below meth c nL cs D cl A Ag Q tgt d ∧ ∀ (H : Heap) (locs : List Loc) (n1 n2 : Nat) (ls : Array Slot) (rest : List Value) (x : Int32), (∀ q ∈ cases, ¬ x = q.1) → W p l e R s m args below meth c H locs n1 n2 Q (F0 m tgt ls rest) → W p l e R s m args below meth c H locs n1 n2 Q (F0 m pc ls (.int x :: rest))) :
    wq_Snd p l e R s m args below meth c nL cs D cl A Ag Q pc (wq_sw cases d) := by
  intro L S w n1 n2 h ad ls H locs hA hl hP hD hS
  rcases S with _ | ⟨a1, S⟩
  · cases cases <;> exact h.elim
  · rcases a1 with a1 | q1
    · cases a1 with
      | int x =>
        rcases wq_sw_at cases h with ⟨q, hq, rfl, h2⟩ | ⟨h1, h2⟩
        · obtain ⟨tgt, h3, h4⟩ := hin q hq
          exact h4 _ _ _ _ _ _ (h3 _ _ _ _ _ h2 ad ls H locs hA hl hP hD hS)
        · obtain ⟨tgt, h3, h4⟩ := hout
          exact h4 _ _ _ _ _ _ x h1 (h3 _ _ _ _ _ h2 ad ls H locs hA hl hP hD hS)
      | _ => cases cases <;> exact h.elim
    · cases cases <;> exact h.elim
-- Math
def wq_m2 (f : Int32 → Int32 → Int32) (Rc Rs : Nat) (k : wq_T) : wq_T := fun L S w n1 n2 => match S with
  | .inl (.int y) :: .inl (.int x) :: S' => cond (Nat.ble (wq_sm S') 8) (wq_le n1 Rc (wq_le n2 Rs (k L (.inl (.int (f x y)) :: S') w n1 n2))) False
  | _ => False
theorem wq_m2_ok {f : Int32 → Int32 → Int32} (hW : ∀ (H : Heap) (locs : List Loc) (n1 n2 : Nat) (ls : Array Slot) (rest : List Value) (x y : Int32), ls.size = nL → (rest.map fun v => v.category).sum ≤ 8 → n1 ≤ R.cells → n2 ≤ R.slots → W p l e R s m args below meth c H locs n1 n2 Q (F0 m (pc + 3) ls (.int (f x y) :: rest)) → W p l e R s m args below meth c H locs n1 n2 Q (F0 m pc ls (.int y :: .int x :: rest)))
    (hk : wq_Snd p l e R s m args below meth c nL cs D cl A Ag Q (pc + 3) k) : wq_Snd p l e R s m args below meth c nL cs D cl A Ag Q pc (wq_m2 f R.cells R.slots k) := by
  intro L S w n1 n2 h ad ls H locs hA hl hP hD hS
  unfold wq_m2 at h
  split at h
  · rename_i y x S'
    have hsm : wq_sm S' ≤ 8 := by
      cases hb : Nat.ble (wq_sm S') 8 with
      | true => exact Nat.le_of_ble_eq_true hb
      | false => rw [hb] at h; exact h.elim
    rw [Nat.ble_eq_true_of_le hsm, cond_true] at h
    obtain ⟨hc, hs, h⟩ := wq_le2 h
    exact hW H locs n1 n2 ls _ x y hl.1 (by rw [wq_sm_map]; exact hsm) hc hs (hk _ _ _ _ _ h ad ls H locs hA hl hP hD hS)
  · exact h.elim
-- handlers
def wq_xh (hs : List (Nat × Nat × wq_T)) : wq_L → Nat → wq_W → Nat → Nat → Prop := fun L E w n1 n2 => match hs with
  | [] => False
  | q :: r => cond (Nat.beq E q.1) (wq_nf (wq_d1 q.2.1 L) (fun L' => q.2.2 L' [] w n1 n2)) (wq_xh r L E w n1 n2)
theorem wq_xh_ok (hown : s.vm.findClass own = some m.cls) (hN : wq_N s) (h0 : p.tables.exec = Jvm.exec ∧ c.code = cc) (hs : List (Nat × Nat × wq_T)) : ∀ (pre suf : List ExceptionTableEntry), c.exceptionTable.toList = pre ++ suf → hs.length ≤ suf.length →
    (∀ (i : Nat) (q : Nat × Nat × wq_T) (x : ExceptionTableEntry), hs[i]? = some q → suf[i]? = some x → q.1 < 4 ∧ covers x pc = true ∧ x.catchType ≠ 0 ∧ (Cond.classLink own x.catchType (wq_en q.1)).before args s = true ∧ (Cond.castable (wq_en q.1) (wq_en q.1)).before args s = true ∧ (decode cc x.handlerPc = .ok (.astore q.2.1, 2) ∨ ∃ j : Fin 4, (j : Nat) = q.2.1 ∧ decode cc x.handlerPc = .ok (.astore_n j, 1)) ∧ q.2.1 < nL ∧
      (∀ len : Nat, (∃ ig, decode cc x.handlerPc = .ok (ig, len)) → wq_Snd p l e R s m args below meth c nL cs D cl A Ag Q (x.handlerPc + len) q.2.2)) →
    ∀ (E : Nat), (∀ z ∈ pre, ∃ E', E' < 4 ∧ E' ≠ E ∧ z.catchType ≠ 0 ∧ (Cond.classLink own z.catchType (wq_en E')).before args s = true) → ∀ (L : wq_L) (w : wq_W) (n1 n2 : Nat), wq_xh hs L E w n1 n2 → ∀ (ad : wq_Ad) (ls : Array Slot) (H : Heap) (locs : List Loc) (rest : List Value) (q : Addr) (ce : Cell), Ag ad → wq_hl ad ls nL L → wq_P cs D cl ad w H → wq_D A ad w → va_S A s.heap H locs → H[q]? = some ce → ce.vm = .none → s.vm.findClass (wq_en E) = some ce.cls →
      wq_Th p l e R s m args below meth c H locs n1 n2 Q (F0 m pc ls rest) q := by
  induction hs with
  | nil => intro pre suf _ _ _ E _ L w n1 n2 h; exact h.elim
  | cons q r ih =>
    intro pre suf hsp hlen hall E hpre L w n1 n2 h ad ls H locs rest q9 ce hA hl hP hD hS h1 h2 h3
    rcases suf with _ | ⟨x, suf⟩
    · simp at hlen
    · obtain ⟨a1, a2, a3, a4, a5, a6, a7, a8⟩ := hall 0 q x rfl rfl
      unfold wq_xh at h
      cases hb : Nat.beq E q.1 with
      | true =>
        rw [hb, cond_true, wq_nf_eq] at h
        have hE : E = q.1 := Nat.eq_of_beq_eq_true hb
        subst hE
        refine wq_Th_catch hown pre x suf hsp (fun z hz => ?_) a2 a3 a4 a5 h1 h2 h3 ?_
        · obtain ⟨E', b1, b2, b3, b4⟩ := hpre z hz
          exact Or.inr ⟨b3, _, b4, hN.1 q.1 E' a1 b1 (Ne.symm b2)⟩
        · rcases a6 with a6 | ⟨j, hj, a6⟩
          · exact lv_astore h0.1 h0.2 a6 hl a7 rfl (fun ls' h' => a8 2 ⟨_, a6⟩ _ _ _ _ _ h ad ls' H locs hA (wq_hl_d1x h') hP hD hS)
          · exact lv_astore_n h0.1 h0.2 a6 hj hl a7 rfl (fun ls' h' => a8 1 ⟨_, a6⟩ _ _ _ _ _ h ad ls' H locs hA (wq_hl_d1x h') hP hD hS)
      | false =>
        rw [hb, cond_false] at h
        have hE : E ≠ q.1 := Nat.ne_of_beq_eq_false hb
        refine ih (pre ++ [x]) suf (by rw [hsp]; simp) (by simpa using hlen) (fun i q' x' e1 e2 => hall (i + 1) q' x' e1 e2) E (fun z hz => ?_) L w n1 n2 h ad ls H locs rest q9 ce hA hl hP hD hS h1 h2 h3
        rcases List.mem_append.mp hz with hz | hz
        · exact hpre z hz
        · rw [List.mem_singleton.mp hz]
          exact ⟨q.1, a1, Ne.symm hE, a3, a4⟩
end WQY
