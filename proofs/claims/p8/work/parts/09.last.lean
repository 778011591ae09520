/-! What the methods' rows take beside the frame. -/
theorem kx_of {T : List Cond} {L : List Cond} (h : L.all (fun w => wq_hw w || (decide (w ∈ wq_fw) || (decide (w ∈ T) && w.onTables))) = true) : ∀ w ∈ L, wq_hw w = true ∨ w ∈ wq_fw ∨ (w ∈ T ∧ w.onTables = true) := by
  intro w hw
  have h1 := List.all_eq_true.mp h w hw
  simp only [Bool.or_eq_true, Bool.and_eq_true, decide_eq_true_eq] at h1
  exact h1
def wq_spA (N0 maxL : Nat) (t : (Option wq_V → wq_W → Prop) → (Nat → wq_W → Prop) → wq_T) : wq_S := fun as w k x => cond (wq_leq w N0) (wq_sp maxL t as w k x) False
theorem wq_spA_len {N0 maxL : Nat} {t : (Option wq_V → wq_W → Prop) → (Nat → wq_W → Prop) → wq_T} {as : List wq_V} {w : wq_W} {k : Option wq_V → wq_W → Prop} {x : Nat → wq_W → Prop} (h : wq_spA N0 maxL t as w k x) : w.length = N0 := by
  unfold wq_spA at h
  cases hb : wq_leq w N0 with
  | true => exact wq_leq_ok hb
  | false => rw [hb] at h; exact h.elim
theorem wq_spA_sp {N0 maxL : Nat} {t : (Option wq_V → wq_W → Prop) → (Nat → wq_W → Prop) → wq_T} {as : List wq_V} {w : wq_W} {k : Option wq_V → wq_W → Prop} {x : Nat → wq_W → Prop} (h : wq_spA N0 maxL t as w k x) : wq_sp maxL t as w k x := by
  unfold wq_spA at h
  cases hb : wq_leq w N0 with
  | true => rw [hb] at h; exact h
  | false => rw [hb] at h; exact h.elim
theorem wq_spA_sz {N0 maxL : Nat} {t : (Option wq_V → wq_W → Prop) → (Nat → wq_W → Prop) → wq_T} (as : List wq_V) (w : wq_W) (k : Option wq_V → wq_W → Prop) (x : Nat → wq_W → Prop) (h : wq_spA N0 maxL t as w k x) : wq_sm as ≤ maxL := wq_sp_sz as w k x (wq_spA_sp h)
theorem wq_spA_t {N0 maxL : Nat} {t : (Option wq_V → wq_W → Prop) → (Nat → wq_W → Prop) → wq_T} {as : List wq_V} {w : wq_W} {k : Option wq_V → wq_W → Prop} {x : Nat → wq_W → Prop} (h : wq_spA N0 maxL t as w k x) : t k x (wq_ar 0 as) [] w 0 0 := wq_sp_t (wq_spA_sp h)
theorem wq_G1_ok {ad : wq_Ad} {w : wq_W} {N0 : Nat} (h : w.length = N0) : wq_AgOK (wq_G1 ad w) N0 := by
  intro N a a' hN hg had p i hp
  rw [had p i (by omega)]
  exact hg p i hp
theorem wq_tabO {x : Int32} (lo hi : Nat) (hh : hi < 2 ^ 31) (h : ∀ k, lo ≤ k → k ≤ hi → ¬ x = nI k) : x.toInt < (lo : Int) ∨ (hi : Int) < x.toInt := by
  by_cases h1 : x.toInt < (lo : Int)
  · exact Or.inl h1
  · by_cases h2 : (hi : Int) < x.toInt
    · exact Or.inr h2
    · exfalso
      have hk : x = nI x.toInt.toNat := by
        apply Int32.toInt_inj.mp
        rw [nI_toInt (by omega)]
        omega
      exact h x.toInt.toNat (by omega) (by omega) hk
theorem wq_methodH {l : Launch} {cl : List vw_C} {y : MethodName} {ws : List Cond} {rm : Room} {G : wq_Ad → wq_W → wq_Ad → Prop} {sp : wq_S} {mc ms : Nat} {cc : ByteArray} {maxL : Nat} {ret : Option FieldType} {hh : List (Nat × Nat × Nat × Nat)}
    (hy : plainName y.cls = true) (hw : Cond.codeWith y cc maxL ret hh ∈ ws) (hG : ∀ ad w, G ad w ad) (hsz : ∀ as w k x, sp as w k x → wq_sm as ≤ maxL)
    (body : ∀ (p : Program) (e : Env) (s : State) (m : MethodId) (args : Array Value) (below : List Frame) (meth : Method) (c : Code) (cs : Nat → ClassId) (D : va_G) (ad : wq_Ad) (as : List wq_V) (w : wq_W) (k : Option wq_V → wq_W → Prop) (x : Nat → wq_W → Prop),
      wq_Fx p l s m args meth c y ws cc maxL ret cs D cl (wq_A ad w s.heap.size) → c.exceptionTable.toList = tableOf hh → sp as w k x →
      wq_at p l e rm s m args below meth c maxL cs D cl (wq_A ad w s.heap.size) (G ad w) (wq_Q cs D cl (wq_A ad w s.heap.size) (G ad w) k x below s mc ms) 0 (wq_ar 0 as) [] w 0 0) :
    wq_Vld l cl y ws rm G sp mc ms := by
  intro cs D ad as w sz k x hsp
  refine wq_ofWH (cc := cc) (maxL := maxL) (ret := ret) hy hw ?_
  intro p e s m args below meth c s₁ B hml ht hv
  obtain ⟨rfl, rfl, hP, hK, hD, hZ, hN⟩ := hv
  have hts := atoms_spec (ws := ws) B.pre
  have hF : wq_Fx p l s m ((as.map (wq_v ad)).toArray) meth c y ws cc maxL ret cs D cl (wq_A ad w s.heap.size) :=
    ⟨⟨B.exec, B.bytes⟩, B.returns, hts, findClass_of_methodNamed B.named, B.notSynchronized, (name_of_methodNamed B.named B.method).1, hml, hK, hZ, hN, fun q h => Or.inr h⟩
  have hb := body p e s m _ below meth c cs D ad as w k x hF ht hsp
  rw [lg_entry_eq]
  refine hb ad _ s.heap [] (hG ad w) ?_ hP hD va_S.rf
  unfold wq_hl
  rw [wq_ar_eq]
  exact lv_entry _ (by rw [wq_sl_len]; exact hsz as w k x hsp)
