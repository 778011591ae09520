/-! A static call of a method with a table of handlers. -/
section WQH
variable {p : Program} {l : Launch} {e : Env} {R : Room} {s : State} {m : MethodId} {args : Array Value} {below : List Frame} {meth : Method} {c : Code} {nL : Nat} {cs : Nat → ClassId} {D : va_G} {cl : List vw_C} {A : Nat → Prop} {cc : ByteArray} {pc mc ms : Nat}
variable {y : MethodName} {bytes : ByteArray} {maxL n index : Nat} {ret : Option FieldType} {hh : List (Nat × Nat × Nat × Nat)} {ws : List Cond} {rm : Room} {Ts : List Cond} {own : String} {G : wq_Ad → wq_W → wq_Ad → Prop} {sp : wq_S}
theorem wq_runSH (S : CallFix p m c cc nL s args Ts own) (hV : wq_Vld l cl y ws rm G sp mc ms) (hG : GoodIn Ts ws) (hcode : Cond.codeWith y bytes maxL ret hh ∈ ws) (hini : Cond.initialized y.cls ∈ Ts) (hlink : Cond.methodLink own index y ∈ Ts) (hstt : Cond.static y ∈ Ts) (hd9 : y.cls ≠ "java/lang/invoke/MethodHandle" ∧ y.cls ≠ "java/lang/invoke/VarHandle" ∧ (parseMethodDescriptor y.desc).map (fun d => d.parameters.length) = some n) (hrc : rm.cells = mc) (hrs : rm.slots = ms) (hR : rm.frames + 1 ≤ R.frames ∧ 8 + (maxL + 11) + rm.locals ≤ R.locals)
    (hK : va_K D cl (wq_tys cs) s) (hZ : wq_Z A s s.heap) (hN : wq_N s) (hA : ∀ q, s.heap.size ≤ q → A q) (hd : decode cc pc = .ok (.invokestatic index, 3)) :
    wq_RunOK p l e R s m args below meth c nL cs D cl A G sp n mc ms pc := by
  intro ad as rest w k x ls H locs n1 n2 hsp hn hsz hP hD hS hsm h1 h2
  obtain ⟨hx, hb, hml, ho, hts⟩ := S
  have hM := hV cs D ad _ w H.size k x hsp
  have hpay := pay_in hts hG
  intro T hT X
  obtain ⟨mk, methM, cM, hnamed, hmethM, hcM, -, hlM, -, -, -, hsigM⟩ := Cond.codeWith_spec (hts _ (hG _ hcode).1)
  have hstatic : methM.isStatic = true := Cond.static_spec hnamed hmethM (hts _ hstt)
  obtain ⟨kP, hkP, -⟩ := className_of_methodNamed hnamed
  have hinitP : kP.init = .initialized := Cond.initialized_spec (findClass_of_methodNamed hnamed) hkP (hts _ hini)
  subst hb
  obtain ⟨vm₁, X₁, hstep₁⟩ := X.invokestatic hx ho (hts _ hlink) hnamed hmethM hstatic hkP hinitP ⟨hd9.1, hd9.2.1⟩ (g := F0 m pc ls ((as.map (wq_v ad)).reverse ++ rest.map (wq_v ad))) rfl (argsL := as.map (wq_v ad)) (rest := rest.map (wq_v ad)) (by rw [List.length_map]; exact hn.trans (wq_par hd9.2.2 _ hsigM)) rfl hd
  have hal := X₁.warmed.alike
  have hroom := lv_room (m := m) (pc := pc) (ls := ls) (rest := rest.map (wq_v ad)) (st := rest.map (wq_v ad)) (by rw [wq_sm_map]; exact hsm)
  obtain ⟨t, B, L, X', hL, e1, e2, hq⟩ := wq_pay X₁ hM (g := F0 m pc ls (rest.map (wq_v ad))) (mk := mk) (a := (as.map (wq_v ad)).toArray) (maxL := maxL) rfl (hsz.trans hml.symm) hd hroom (X₁.named hnamed) (hal.method? mk ▸ hmethM) hcM hlM (word_at X₁.warmed (Or.inl (by first | rfl | simp [Cond.onTables, Cond.keeps, Cond.steady])) (hts _ hini)) (fun w hw => hpay w hw _ _ X₁.warmed)
    (wq_Pc_blind _ _ _ _ (wq_Pc_of (locs := locs) hK hZ hN hA hP hD hS (T.setVm vm₁) hT X₁.warmed)) hR.1 hR.2 (by rw [hrc]; exact h1) (by rw [hrs]; exact h2)
  refine ⟨(T.setVm vm₁).calling (F0 m pc ls (rest.map (wq_v ad))) mk (as.map (wq_v ad)).toArray, t, B, L, hT, hal, X', hL, e1, e2, ?_⟩
  rcases hq with ⟨v, h1, h2⟩ | ⟨q, h1, h2⟩
  · exact Or.inl ⟨v, h1, fun tg h3 => hstep₁ _ fun acts => by rw [doInvoke_state]; exact h2.trans h3⟩
  · exact Or.inr ⟨q, h1, hstep₁ _ fun acts => by rw [doInvoke_state]; exact h2⟩
end WQH
