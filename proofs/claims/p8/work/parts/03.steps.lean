/-! Steps: each instruction as a predicate transformer, and the row that it is sound. -/
section WQS
variable {p : Program} {l : Launch} {e : Env} {R : Room} {s : State} {m : MethodId} {args : Array Value} {below : List Frame} {meth : Method} {c : Code} {nL : Nat} {cs : Nat → ClassId} {D : va_G} {cl : List vw_C} {A : Nat → Prop} {Ag : wq_Ad → Prop} {Q : State → Prop} {cc : ByteArray} {pc : Nat} {k k1 k2 : wq_T}
def wq_iconst (x : Int32) (k : wq_T) : wq_T := fun L S w n1 n2 => k L (.inl (.int x) :: S) w n1 n2
def wq_lconst (x : Int64) (k : wq_T) : wq_T := fun L S w n1 n2 => k L (.inl (.long x) :: S) w n1 n2
theorem wq_iconst_ok (h0 : p.tables.exec = Jvm.exec ∧ c.code = cc) {z : Int} {v : Int32} (hd : decode cc pc = .ok (.iconst z, 1)) (hv : Int32.ofInt z = v) (hk : wq_Snd p l e R s m args below meth c nL cs D cl A Ag Q (pc + 1) (k)) : wq_Snd p l e R s m args below meth c nL cs D cl A Ag Q pc (wq_iconst v k) := by
  intro L S w n1 n2 h ad ls H locs hA hl hP hD hS
  exact lv_iconst h0.1 h0.2 hd hv (hk _ _ _ _ _ h ad ls H locs hA hl hP hD hS)
theorem wq_bipush_ok (h0 : p.tables.exec = Jvm.exec ∧ c.code = cc) {z : Int} {v : Int32} (hd : decode cc pc = .ok (.bipush z, 2)) (hv : (Int8.ofInt z).toInt32 = v) (hk : wq_Snd p l e R s m args below meth c nL cs D cl A Ag Q (pc + 2) (k)) : wq_Snd p l e R s m args below meth c nL cs D cl A Ag Q pc (wq_iconst v k) := by
  intro L S w n1 n2 h ad ls H locs hA hl hP hD hS
  exact lv_bipush h0.1 h0.2 hd hv (hk _ _ _ _ _ h ad ls H locs hA hl hP hD hS)
theorem wq_sipush_ok (h0 : p.tables.exec = Jvm.exec ∧ c.code = cc) {z : Int} {v : Int32} (hd : decode cc pc = .ok (.sipush z, 3)) (hv : (Int16.ofInt z).toInt32 = v) (hk : wq_Snd p l e R s m args below meth c nL cs D cl A Ag Q (pc + 3) (k)) : wq_Snd p l e R s m args below meth c nL cs D cl A Ag Q pc (wq_iconst v k) := by
  intro L S w n1 n2 h ad ls H locs hA hl hP hD hS
  exact lv_sipush h0.1 h0.2 hd hv (hk _ _ _ _ _ h ad ls H locs hA hl hP hD hS)
theorem wq_lconst_ok (h0 : p.tables.exec = Jvm.exec ∧ c.code = cc) {z : Fin 2} {v : Int64} (hd : decode cc pc = .ok (.lconst z, 1)) (hv : Int64.ofNat (z : Nat) = v) (hk : wq_Snd p l e R s m args below meth c nL cs D cl A Ag Q (pc + 1) (k)) : wq_Snd p l e R s m args below meth c nL cs D cl A Ag Q pc (wq_lconst v k) := by
  intro L S w n1 n2 h ad ls H locs hA hl hP hD hS
  exact lv_lconst h0.1 h0.2 hd hv (hk _ _ _ _ _ h ad ls H locs hA hl hP hD hS)
theorem wq_ldc_ok (h0 : p.tables.exec = Jvm.exec ∧ c.code = cc) {own : String} {index : Nat} {v : Int32} (hown : s.vm.findClass own = some m.cls) (hc : (Jvm.Cond.constant own index v).before args s = true) (hd : decode cc pc = .ok (.ldc index, 2)) (hk : wq_Snd p l e R s m args below meth c nL cs D cl A Ag Q (pc + 2) (k)) : wq_Snd p l e R s m args below meth c nL cs D cl A Ag Q pc (wq_iconst v k) := by
  intro L S w n1 n2 h ad ls H locs hA hl hP hD hS
  exact lv_ldc h0.1 h0.2 hown hc hd (hk _ _ _ _ _ h ad ls H locs hA hl hP hD hS)
theorem wq_ldcw_ok (h0 : p.tables.exec = Jvm.exec ∧ c.code = cc) {own : String} {index : Nat} {v : Int32} (hown : s.vm.findClass own = some m.cls) (hc : (Jvm.Cond.constant own index v).before args s = true) (hd : decode cc pc = .ok (.ldc_w index, 3)) (hk : wq_Snd p l e R s m args below meth c nL cs D cl A Ag Q (pc + 3) (k)) : wq_Snd p l e R s m args below meth c nL cs D cl A Ag Q pc (wq_iconst v k) := by
  intro L S w n1 n2 h ad ls H locs hA hl hP hD hS
  exact lv_ldcw h0.1 h0.2 hown hc hd (hk _ _ _ _ _ h ad ls H locs hA hl hP hD hS)
theorem wq_ldc2_ok (h0 : p.tables.exec = Jvm.exec ∧ c.code = cc) {own : String} {index : Nat} {v : Int64} (hown : s.vm.findClass own = some m.cls) (hc : (Jvm.Cond.constantLong own index v).before args s = true) (hd : decode cc pc = .ok (.ldc2_w index, 3)) (hk : wq_Snd p l e R s m args below meth c nL cs D cl A Ag Q (pc + 3) (k)) : wq_Snd p l e R s m args below meth c nL cs D cl A Ag Q pc (wq_lconst v k) := by
  intro L S w n1 n2 h ad ls H locs hA hl hP hD hS
  exact lv_ldc2 h0.1 h0.2 hown hc hd (hk _ _ _ _ _ h ad ls H locs hA hl hP hD hS)
def wq_iload (i : Nat) (k : wq_T) : wq_T := fun L S w n1 n2 => match wq_g L i with
  | some (.inl (.int x)) => k L (.inl (.int x) :: S) w n1 n2
  | _ => False
def wq_lload (i : Nat) (k : wq_T) : wq_T := fun L S w n1 n2 => match wq_g L i with
  | some (.inl (.long x)) => k L (.inl (.long x) :: S) w n1 n2
  | _ => False
def wq_aload (i : Nat) (k : wq_T) : wq_T := fun L S w n1 n2 => match wq_g L i with
  | some (.inl (.ref x)) => k L (.inl (.ref x) :: S) w n1 n2
  | some (.inr x) => k L (.inr x :: S) w n1 n2
  | _ => False
theorem wq_iload_ok (h0 : p.tables.exec = Jvm.exec ∧ c.code = cc) {i : Nat} (hd : decode cc pc = .ok (.iload i, 2)) (hk : wq_Snd p l e R s m args below meth c nL cs D cl A Ag Q (pc + 2) (k)) : wq_Snd p l e R s m args below meth c nL cs D cl A Ag Q pc (wq_iload i k) := by
  intro L S w n1 n2 h ad ls H locs hA hl hP hD hS
  unfold wq_iload at h
  cases hg : wq_g L i with
  | none => rw [hg] at h; exact h.elim
  | some v =>
    rw [hg] at h
    rcases v with v | q
    · cases v with
      | int x => exact lv_iload h0.1 h0.2 hd (wq_hl_get hl hg) (hk _ _ _ _ _ h ad ls H locs hA hl hP hD hS)
      | _ => exact h.elim
    · exact h.elim
theorem wq_iload_n_ok (h0 : p.tables.exec = Jvm.exec ∧ c.code = cc) {j : Fin 4} {i : Nat} (hd : decode cc pc = .ok (.iload_n j, 1)) (hi : (j : Nat) = i) (hk : wq_Snd p l e R s m args below meth c nL cs D cl A Ag Q (pc + 1) (k)) : wq_Snd p l e R s m args below meth c nL cs D cl A Ag Q pc (wq_iload i k) := by
  intro L S w n1 n2 h ad ls H locs hA hl hP hD hS
  unfold wq_iload at h
  cases hg : wq_g L i with
  | none => rw [hg] at h; exact h.elim
  | some v =>
    rw [hg] at h
    rcases v with v | q
    · cases v with
      | int x => exact lv_iload_n h0.1 h0.2 hd hi (wq_hl_get hl hg) (hk _ _ _ _ _ h ad ls H locs hA hl hP hD hS)
      | _ => exact h.elim
    · exact h.elim
theorem wq_lload_ok (h0 : p.tables.exec = Jvm.exec ∧ c.code = cc) {i : Nat} (hd : decode cc pc = .ok (.lload i, 2)) (hk : wq_Snd p l e R s m args below meth c nL cs D cl A Ag Q (pc + 2) (k)) : wq_Snd p l e R s m args below meth c nL cs D cl A Ag Q pc (wq_lload i k) := by
  intro L S w n1 n2 h ad ls H locs hA hl hP hD hS
  unfold wq_lload at h
  cases hg : wq_g L i with
  | none => rw [hg] at h; exact h.elim
  | some v =>
    rw [hg] at h
    rcases v with v | q
    · cases v with
      | long x => exact lv_lload h0.1 h0.2 hd (wq_hl_get hl hg) (hk _ _ _ _ _ h ad ls H locs hA hl hP hD hS)
      | _ => exact h.elim
    · exact h.elim
theorem wq_lload_n_ok (h0 : p.tables.exec = Jvm.exec ∧ c.code = cc) {j : Fin 4} {i : Nat} (hd : decode cc pc = .ok (.lload_n j, 1)) (hi : (j : Nat) = i) (hk : wq_Snd p l e R s m args below meth c nL cs D cl A Ag Q (pc + 1) (k)) : wq_Snd p l e R s m args below meth c nL cs D cl A Ag Q pc (wq_lload i k) := by
  intro L S w n1 n2 h ad ls H locs hA hl hP hD hS
  unfold wq_lload at h
  cases hg : wq_g L i with
  | none => rw [hg] at h; exact h.elim
  | some v =>
    rw [hg] at h
    rcases v with v | q
    · cases v with
      | long x => exact lv_lload_n h0.1 h0.2 hd hi (wq_hl_get hl hg) (hk _ _ _ _ _ h ad ls H locs hA hl hP hD hS)
      | _ => exact h.elim
    · exact h.elim
theorem wq_aload_ok (h0 : p.tables.exec = Jvm.exec ∧ c.code = cc) {i : Nat} (hd : decode cc pc = .ok (.aload i, 2)) (hk : wq_Snd p l e R s m args below meth c nL cs D cl A Ag Q (pc + 2) (k)) : wq_Snd p l e R s m args below meth c nL cs D cl A Ag Q pc (wq_aload i k) := by
  intro L S w n1 n2 h ad ls H locs hA hl hP hD hS
  unfold wq_aload at h
  cases hg : wq_g L i with
  | none => rw [hg] at h; exact h.elim
  | some v =>
    rw [hg] at h
    rcases v with v | q
    · cases v with
      | ref x => exact lv_aload h0.1 h0.2 hd (wq_hl_get hl hg) (hk _ _ _ _ _ h ad ls H locs hA hl hP hD hS)
      | _ => exact h.elim
    · exact lv_aload h0.1 h0.2 hd (wq_hl_get hl hg) (hk _ _ _ _ _ h ad ls H locs hA hl hP hD hS)
theorem wq_aload_n_ok (h0 : p.tables.exec = Jvm.exec ∧ c.code = cc) {j : Fin 4} {i : Nat} (hd : decode cc pc = .ok (.aload_n j, 1)) (hi : (j : Nat) = i) (hk : wq_Snd p l e R s m args below meth c nL cs D cl A Ag Q (pc + 1) (k)) : wq_Snd p l e R s m args below meth c nL cs D cl A Ag Q pc (wq_aload i k) := by
  intro L S w n1 n2 h ad ls H locs hA hl hP hD hS
  unfold wq_aload at h
  cases hg : wq_g L i with
  | none => rw [hg] at h; exact h.elim
  | some v =>
    rw [hg] at h
    rcases v with v | q
    · cases v with
      | ref x => exact lv_aload_n h0.1 h0.2 hd hi (wq_hl_get hl hg) (hk _ _ _ _ _ h ad ls H locs hA hl hP hD hS)
      | _ => exact h.elim
    · exact lv_aload_n h0.1 h0.2 hd hi (wq_hl_get hl hg) (hk _ _ _ _ _ h ad ls H locs hA hl hP hD hS)
def wq_istore (i : Nat) (k : wq_T) : wq_T := fun L S w n1 n2 => match S with
  | .inl (.int x) :: S' => wq_nf (wq_d1 i L) (fun L' => k ((i, .inl (.int x)) :: L') S' w n1 n2)
  | _ => False
def wq_lstore (i : Nat) (k : wq_T) : wq_T := fun L S w n1 n2 => match S with
  | .inl (.long x) :: S' => wq_nf (wq_d2 i L) (fun L' => k ((i, .inl (.long x)) :: L') S' w n1 n2)
  | _ => False
def wq_astore (i : Nat) (k : wq_T) : wq_T := fun L S w n1 n2 => match S with
  | .inl (.ref x) :: S' => wq_nf (wq_d1 i L) (fun L' => k ((i, .inl (.ref x)) :: L') S' w n1 n2)
  | .inr x :: S' => wq_nf (wq_d1 i L) (fun L' => k ((i, .inr x) :: L') S' w n1 n2)
  | _ => False
theorem wq_istore_ok (h0 : p.tables.exec = Jvm.exec ∧ c.code = cc) {i : Nat} (hd : decode cc pc = .ok (.istore i, 2)) (hn : i < nL) (hk : wq_Snd p l e R s m args below meth c nL cs D cl A Ag Q (pc + 2) (k)) : wq_Snd p l e R s m args below meth c nL cs D cl A Ag Q pc (wq_istore i k) := by
  intro L S w n1 n2 h ad ls H locs hA hl hP hD hS
  unfold wq_istore at h
  rcases S with _ | ⟨v, S⟩
  · exact h.elim
  · rcases v with v | q
    · cases v with
      | int x =>
        simp only [wq_nf_eq] at h
        exact lv_istore h0.1 h0.2 hd hl hn rfl (fun ls' h' => hk _ _ _ _ _ h ad ls' H locs hA (wq_hl_d1 (x := .inl (.int x)) h') hP hD hS)
      | _ => exact h.elim
    · exact h.elim
theorem wq_istore_n_ok (h0 : p.tables.exec = Jvm.exec ∧ c.code = cc) {j : Fin 4} {i : Nat} (hd : decode cc pc = .ok (.istore_n j, 1)) (hi : (j : Nat) = i) (hn : i < nL) (hk : wq_Snd p l e R s m args below meth c nL cs D cl A Ag Q (pc + 1) (k)) : wq_Snd p l e R s m args below meth c nL cs D cl A Ag Q pc (wq_istore i k) := by
  intro L S w n1 n2 h ad ls H locs hA hl hP hD hS
  unfold wq_istore at h
  rcases S with _ | ⟨v, S⟩
  · exact h.elim
  · rcases v with v | q
    · cases v with
      | int x =>
        simp only [wq_nf_eq] at h
        exact lv_istore_n h0.1 h0.2 hd hi hl hn rfl (fun ls' h' => hk _ _ _ _ _ h ad ls' H locs hA (wq_hl_d1 (x := .inl (.int x)) h') hP hD hS)
      | _ => exact h.elim
    · exact h.elim
theorem wq_lstore_ok (h0 : p.tables.exec = Jvm.exec ∧ c.code = cc) {i : Nat} (hd : decode cc pc = .ok (.lstore i, 2)) (hn : i + 1 < nL) (hk : wq_Snd p l e R s m args below meth c nL cs D cl A Ag Q (pc + 2) (k)) : wq_Snd p l e R s m args below meth c nL cs D cl A Ag Q pc (wq_lstore i k) := by
  intro L S w n1 n2 h ad ls H locs hA hl hP hD hS
  unfold wq_lstore at h
  rcases S with _ | ⟨v, S⟩
  · exact h.elim
  · rcases v with v | q
    · cases v with
      | long x =>
        simp only [wq_nf_eq] at h
        exact lv_lstore h0.1 h0.2 hd hl hn rfl (fun ls' h' => hk _ _ _ _ _ h ad ls' H locs hA (wq_hl_d2 (x := .inl (.long x)) h') hP hD hS)
      | _ => exact h.elim
    · exact h.elim
theorem wq_lstore_n_ok (h0 : p.tables.exec = Jvm.exec ∧ c.code = cc) {j : Fin 4} {i : Nat} (hd : decode cc pc = .ok (.lstore_n j, 1)) (hi : (j : Nat) = i) (hn : i + 1 < nL) (hk : wq_Snd p l e R s m args below meth c nL cs D cl A Ag Q (pc + 1) (k)) : wq_Snd p l e R s m args below meth c nL cs D cl A Ag Q pc (wq_lstore i k) := by
  intro L S w n1 n2 h ad ls H locs hA hl hP hD hS
  unfold wq_lstore at h
  rcases S with _ | ⟨v, S⟩
  · exact h.elim
  · rcases v with v | q
    · cases v with
      | long x =>
        simp only [wq_nf_eq] at h
        exact lv_lstore_n h0.1 h0.2 hd hi hl hn rfl (fun ls' h' => hk _ _ _ _ _ h ad ls' H locs hA (wq_hl_d2 (x := .inl (.long x)) h') hP hD hS)
      | _ => exact h.elim
    · exact h.elim
theorem wq_astore_ok (h0 : p.tables.exec = Jvm.exec ∧ c.code = cc) {i : Nat} (hd : decode cc pc = .ok (.astore i, 2)) (hn : i < nL) (hk : wq_Snd p l e R s m args below meth c nL cs D cl A Ag Q (pc + 2) (k)) : wq_Snd p l e R s m args below meth c nL cs D cl A Ag Q pc (wq_astore i k) := by
  intro L S w n1 n2 h ad ls H locs hA hl hP hD hS
  unfold wq_astore at h
  rcases S with _ | ⟨v, S⟩
  · exact h.elim
  · rcases v with v | q
    · cases v with
      | ref x =>
        simp only [wq_nf_eq] at h
        exact lv_astore h0.1 h0.2 hd hl hn rfl (fun ls' h' => hk _ _ _ _ _ h ad ls' H locs hA (wq_hl_d1 (x := .inl (.ref x)) h') hP hD hS)
      | _ => exact h.elim
    · simp only [wq_nf_eq] at h
      exact lv_astore h0.1 h0.2 hd hl hn rfl (fun ls' h' => hk _ _ _ _ _ h ad ls' H locs hA (wq_hl_d1 (x := .inr q) h') hP hD hS)
theorem wq_astore_n_ok (h0 : p.tables.exec = Jvm.exec ∧ c.code = cc) {j : Fin 4} {i : Nat} (hd : decode cc pc = .ok (.astore_n j, 1)) (hi : (j : Nat) = i) (hn : i < nL) (hk : wq_Snd p l e R s m args below meth c nL cs D cl A Ag Q (pc + 1) (k)) : wq_Snd p l e R s m args below meth c nL cs D cl A Ag Q pc (wq_astore i k) := by
  intro L S w n1 n2 h ad ls H locs hA hl hP hD hS
  unfold wq_astore at h
  rcases S with _ | ⟨v, S⟩
  · exact h.elim
  · rcases v with v | q
    · cases v with
      | ref x =>
        simp only [wq_nf_eq] at h
        exact lv_astore_n h0.1 h0.2 hd hi hl hn rfl (fun ls' h' => hk _ _ _ _ _ h ad ls' H locs hA (wq_hl_d1 (x := .inl (.ref x)) h') hP hD hS)
      | _ => exact h.elim
    · simp only [wq_nf_eq] at h
      exact lv_astore_n h0.1 h0.2 hd hi hl hn rfl (fun ls' h' => hk _ _ _ _ _ h ad ls' H locs hA (wq_hl_d1 (x := .inr q) h') hP hD hS)
def wq_iinc (i : Nat) (d : Int32) (k : wq_T) : wq_T := fun L S w n1 n2 => match wq_g L i with
  | some (.inl (.int x)) => ∀ v : Int32, v = x + d → wq_nf (wq_d1 i L) (fun L' => k ((i, .inl (.int v)) :: L') S w n1 n2)
  | _ => False
theorem wq_iinc_ok (h0 : p.tables.exec = Jvm.exec ∧ c.code = cc) {i : Nat} {z : Int} {d : Int32} (hd : decode cc pc = .ok (.iinc i z, 3)) (hv : Int32.ofInt z = d) (hn : i < nL) (hk : wq_Snd p l e R s m args below meth c nL cs D cl A Ag Q (pc + 3) (k)) : wq_Snd p l e R s m args below meth c nL cs D cl A Ag Q pc (wq_iinc i d k) := by
  intro L S w n1 n2 h ad ls H locs hA hl hP hD hS
  unfold wq_iinc at h
  cases hg : wq_g L i with
  | none => rw [hg] at h; exact h.elim
  | some v =>
    rw [hg] at h
    rcases v with v | q
    · cases v with
      | int x =>
        replace h := h (x + d) rfl
        simp only [wq_nf_eq] at h
        obtain ⟨j, hj⟩ := List.getElem?_of_mem (List.mem_map.mpr ⟨(i, (.inl (.int x) : wq_V)), wq_g_mem hg, rfl⟩ : ((i, wq_v ad (.inl (.int x))) : Nat × Value) ∈ L.map (fun q => (q.1, wq_v ad q.2)))
        exact lv_iinc h0.1 h0.2 hd hl hj (by rw [hv]) hn rfl (fun ls' h' => hk _ _ _ _ _ h ad ls' H locs hA (wq_hl_d1 (x := .inl (.int (x + d))) h') hP hD hS)
      | _ => exact h.elim
    · exact h.elim
def wq_i2 (f : Int32 → Int32 → Int32) (k : wq_T) : wq_T := fun L S w n1 n2 => match S with
  | .inl (.int y) :: .inl (.int x) :: S' => k L (.inl (.int (f x y)) :: S') w n1 n2
  | _ => False
def wq_l2 (f : Int64 → Int64 → Int64) (k : wq_T) : wq_T := fun L S w n1 n2 => match S with
  | .inl (.long y) :: .inl (.long x) :: S' => k L (.inl (.long (f x y)) :: S') w n1 n2
  | _ => False
def wq_l2d (f : Int64 → Int64 → Int64) (k : wq_T) : wq_T := fun L S w n1 n2 => match S with
  | .inl (.long y) :: .inl (.long x) :: S' => ¬ y = 0 ∧ k L (.inl (.long (f x y)) :: S') w n1 n2
  | _ => False
def wq_i2l (k : wq_T) : wq_T := fun L S w n1 n2 => match S with
  | .inl (.int x) :: S' => k L (.inl (.long x.toInt64) :: S') w n1 n2
  | _ => False
def wq_l2i (k : wq_T) : wq_T := fun L S w n1 n2 => match S with
  | .inl (.long x) :: S' => k L (.inl (.int x.toInt32) :: S') w n1 n2
  | _ => False
theorem wq_iadd_ok (h0 : p.tables.exec = Jvm.exec ∧ c.code = cc)  (hd : decode cc pc = .ok (.iadd, 1)) (hk : wq_Snd p l e R s m args below meth c nL cs D cl A Ag Q (pc + 1) (k)) : wq_Snd p l e R s m args below meth c nL cs D cl A Ag Q pc (wq_i2 (fun x y => x + y) k) := by
  intro L S w n1 n2 h ad ls H locs hA hl hP hD hS
  unfold wq_i2 at h
  rcases S with _ | ⟨a1, S⟩
  · exact h.elim
  · rcases a1 with a1 | q1
    · cases a1 with
      | int y =>
        rcases S with _ | ⟨a2, S⟩
        · exact h.elim
        · rcases a2 with a2 | q2
          · cases a2 with
            | int x => exact lv_iadd h0.1 h0.2 hd (hk _ _ _ _ _ h ad ls H locs hA hl hP hD hS)
            | _ => exact h.elim
          · exact h.elim
      | _ => exact h.elim
    · exact h.elim
theorem wq_isub_ok (h0 : p.tables.exec = Jvm.exec ∧ c.code = cc)  (hd : decode cc pc = .ok (.isub, 1)) (hk : wq_Snd p l e R s m args below meth c nL cs D cl A Ag Q (pc + 1) (k)) : wq_Snd p l e R s m args below meth c nL cs D cl A Ag Q pc (wq_i2 (fun x y => x - y) k) := by
  intro L S w n1 n2 h ad ls H locs hA hl hP hD hS
  unfold wq_i2 at h
  rcases S with _ | ⟨a1, S⟩
  · exact h.elim
  · rcases a1 with a1 | q1
    · cases a1 with
      | int y =>
        rcases S with _ | ⟨a2, S⟩
        · exact h.elim
        · rcases a2 with a2 | q2
          · cases a2 with
            | int x => exact lv_isub h0.1 h0.2 hd (hk _ _ _ _ _ h ad ls H locs hA hl hP hD hS)
            | _ => exact h.elim
          · exact h.elim
      | _ => exact h.elim
    · exact h.elim
theorem wq_imul_ok (h0 : p.tables.exec = Jvm.exec ∧ c.code = cc)  (hd : decode cc pc = .ok (.imul, 1)) (hk : wq_Snd p l e R s m args below meth c nL cs D cl A Ag Q (pc + 1) (k)) : wq_Snd p l e R s m args below meth c nL cs D cl A Ag Q pc (wq_i2 (fun x y => x * y) k) := by
  intro L S w n1 n2 h ad ls H locs hA hl hP hD hS
  unfold wq_i2 at h
  rcases S with _ | ⟨a1, S⟩
  · exact h.elim
  · rcases a1 with a1 | q1
    · cases a1 with
      | int y =>
        rcases S with _ | ⟨a2, S⟩
        · exact h.elim
        · rcases a2 with a2 | q2
          · cases a2 with
            | int x => exact lv_imul h0.1 h0.2 hd (hk _ _ _ _ _ h ad ls H locs hA hl hP hD hS)
            | _ => exact h.elim
          · exact h.elim
      | _ => exact h.elim
    · exact h.elim
theorem wq_iand_ok (h0 : p.tables.exec = Jvm.exec ∧ c.code = cc)  (hd : decode cc pc = .ok (.iand, 1)) (hk : wq_Snd p l e R s m args below meth c nL cs D cl A Ag Q (pc + 1) (k)) : wq_Snd p l e R s m args below meth c nL cs D cl A Ag Q pc (wq_i2 (fun x y => x &&& y) k) := by
  intro L S w n1 n2 h ad ls H locs hA hl hP hD hS
  unfold wq_i2 at h
  rcases S with _ | ⟨a1, S⟩
  · exact h.elim
  · rcases a1 with a1 | q1
    · cases a1 with
      | int y =>
        rcases S with _ | ⟨a2, S⟩
        · exact h.elim
        · rcases a2 with a2 | q2
          · cases a2 with
            | int x => exact lv_iand h0.1 h0.2 hd (hk _ _ _ _ _ h ad ls H locs hA hl hP hD hS)
            | _ => exact h.elim
          · exact h.elim
      | _ => exact h.elim
    · exact h.elim
theorem wq_ior_ok (h0 : p.tables.exec = Jvm.exec ∧ c.code = cc)  (hd : decode cc pc = .ok (.ior, 1)) (hk : wq_Snd p l e R s m args below meth c nL cs D cl A Ag Q (pc + 1) (k)) : wq_Snd p l e R s m args below meth c nL cs D cl A Ag Q pc (wq_i2 (fun x y => x ||| y) k) := by
  intro L S w n1 n2 h ad ls H locs hA hl hP hD hS
  unfold wq_i2 at h
  rcases S with _ | ⟨a1, S⟩
  · exact h.elim
  · rcases a1 with a1 | q1
    · cases a1 with
      | int y =>
        rcases S with _ | ⟨a2, S⟩
        · exact h.elim
        · rcases a2 with a2 | q2
          · cases a2 with
            | int x => exact lv_ior h0.1 h0.2 hd (hk _ _ _ _ _ h ad ls H locs hA hl hP hD hS)
            | _ => exact h.elim
          · exact h.elim
      | _ => exact h.elim
    · exact h.elim
theorem wq_ixor_ok (h0 : p.tables.exec = Jvm.exec ∧ c.code = cc)  (hd : decode cc pc = .ok (.ixor, 1)) (hk : wq_Snd p l e R s m args below meth c nL cs D cl A Ag Q (pc + 1) (k)) : wq_Snd p l e R s m args below meth c nL cs D cl A Ag Q pc (wq_i2 (fun x y => x ^^^ y) k) := by
  intro L S w n1 n2 h ad ls H locs hA hl hP hD hS
  unfold wq_i2 at h
  rcases S with _ | ⟨a1, S⟩
  · exact h.elim
  · rcases a1 with a1 | q1
    · cases a1 with
      | int y =>
        rcases S with _ | ⟨a2, S⟩
        · exact h.elim
        · rcases a2 with a2 | q2
          · cases a2 with
            | int x => exact lv_ixor h0.1 h0.2 hd (hk _ _ _ _ _ h ad ls H locs hA hl hP hD hS)
            | _ => exact h.elim
          · exact h.elim
      | _ => exact h.elim
    · exact h.elim
theorem wq_ishl_ok (h0 : p.tables.exec = Jvm.exec ∧ c.code = cc)  (hd : decode cc pc = .ok (.ishl, 1)) (hk : wq_Snd p l e R s m args below meth c nL cs D cl A Ag Q (pc + 1) (k)) : wq_Snd p l e R s m args below meth c nL cs D cl A Ag Q pc (wq_i2 (fun x y => x <<< (y &&& 31)) k) := by
  intro L S w n1 n2 h ad ls H locs hA hl hP hD hS
  unfold wq_i2 at h
  rcases S with _ | ⟨a1, S⟩
  · exact h.elim
  · rcases a1 with a1 | q1
    · cases a1 with
      | int y =>
        rcases S with _ | ⟨a2, S⟩
        · exact h.elim
        · rcases a2 with a2 | q2
          · cases a2 with
            | int x => exact lv_ishl h0.1 h0.2 hd (hk _ _ _ _ _ h ad ls H locs hA hl hP hD hS)
            | _ => exact h.elim
          · exact h.elim
      | _ => exact h.elim
    · exact h.elim
theorem wq_ishr_ok (h0 : p.tables.exec = Jvm.exec ∧ c.code = cc)  (hd : decode cc pc = .ok (.ishr, 1)) (hk : wq_Snd p l e R s m args below meth c nL cs D cl A Ag Q (pc + 1) (k)) : wq_Snd p l e R s m args below meth c nL cs D cl A Ag Q pc (wq_i2 (fun x y => x >>> (y &&& 31)) k) := by
  intro L S w n1 n2 h ad ls H locs hA hl hP hD hS
  unfold wq_i2 at h
  rcases S with _ | ⟨a1, S⟩
  · exact h.elim
  · rcases a1 with a1 | q1
    · cases a1 with
      | int y =>
        rcases S with _ | ⟨a2, S⟩
        · exact h.elim
        · rcases a2 with a2 | q2
          · cases a2 with
            | int x => exact lv_ishr h0.1 h0.2 hd (hk _ _ _ _ _ h ad ls H locs hA hl hP hD hS)
            | _ => exact h.elim
          · exact h.elim
      | _ => exact h.elim
    · exact h.elim
theorem wq_iushr_ok (h0 : p.tables.exec = Jvm.exec ∧ c.code = cc)  (hd : decode cc pc = .ok (.iushr, 1)) (hk : wq_Snd p l e R s m args below meth c nL cs D cl A Ag Q (pc + 1) (k)) : wq_Snd p l e R s m args below meth c nL cs D cl A Ag Q pc (wq_i2 (fun x y => (x.toUInt32 >>> (y.toUInt32 &&& Int32.toUInt32 31)).toInt32) k) := by
  intro L S w n1 n2 h ad ls H locs hA hl hP hD hS
  unfold wq_i2 at h
  rcases S with _ | ⟨a1, S⟩
  · exact h.elim
  · rcases a1 with a1 | q1
    · cases a1 with
      | int y =>
        rcases S with _ | ⟨a2, S⟩
        · exact h.elim
        · rcases a2 with a2 | q2
          · cases a2 with
            | int x => exact lv_iushr h0.1 h0.2 hd rfl (hk _ _ _ _ _ h ad ls H locs hA hl hP hD hS)
            | _ => exact h.elim
          · exact h.elim
      | _ => exact h.elim
    · exact h.elim
theorem wq_ladd_ok (h0 : p.tables.exec = Jvm.exec ∧ c.code = cc)  (hd : decode cc pc = .ok (.ladd, 1)) (hk : wq_Snd p l e R s m args below meth c nL cs D cl A Ag Q (pc + 1) (k)) : wq_Snd p l e R s m args below meth c nL cs D cl A Ag Q pc (wq_l2 (fun x y => x + y) k) := by
  intro L S w n1 n2 h ad ls H locs hA hl hP hD hS
  unfold wq_l2 at h
  rcases S with _ | ⟨a1, S⟩
  · exact h.elim
  · rcases a1 with a1 | q1
    · cases a1 with
      | long y =>
        rcases S with _ | ⟨a2, S⟩
        · exact h.elim
        · rcases a2 with a2 | q2
          · cases a2 with
            | long x => exact lv_ladd h0.1 h0.2 hd (hk _ _ _ _ _ h ad ls H locs hA hl hP hD hS)
            | _ => exact h.elim
          · exact h.elim
      | _ => exact h.elim
    · exact h.elim
theorem wq_lsub_ok (h0 : p.tables.exec = Jvm.exec ∧ c.code = cc)  (hd : decode cc pc = .ok (.lsub, 1)) (hk : wq_Snd p l e R s m args below meth c nL cs D cl A Ag Q (pc + 1) (k)) : wq_Snd p l e R s m args below meth c nL cs D cl A Ag Q pc (wq_l2 (fun x y => x - y) k) := by
  intro L S w n1 n2 h ad ls H locs hA hl hP hD hS
  unfold wq_l2 at h
  rcases S with _ | ⟨a1, S⟩
  · exact h.elim
  · rcases a1 with a1 | q1
    · cases a1 with
      | long y =>
        rcases S with _ | ⟨a2, S⟩
        · exact h.elim
        · rcases a2 with a2 | q2
          · cases a2 with
            | long x => exact lv_lsub h0.1 h0.2 hd (hk _ _ _ _ _ h ad ls H locs hA hl hP hD hS)
            | _ => exact h.elim
          · exact h.elim
      | _ => exact h.elim
    · exact h.elim
theorem wq_lmul_ok (h0 : p.tables.exec = Jvm.exec ∧ c.code = cc)  (hd : decode cc pc = .ok (.lmul, 1)) (hk : wq_Snd p l e R s m args below meth c nL cs D cl A Ag Q (pc + 1) (k)) : wq_Snd p l e R s m args below meth c nL cs D cl A Ag Q pc (wq_l2 (fun x y => x * y) k) := by
  intro L S w n1 n2 h ad ls H locs hA hl hP hD hS
  unfold wq_l2 at h
  rcases S with _ | ⟨a1, S⟩
  · exact h.elim
  · rcases a1 with a1 | q1
    · cases a1 with
      | long y =>
        rcases S with _ | ⟨a2, S⟩
        · exact h.elim
        · rcases a2 with a2 | q2
          · cases a2 with
            | long x => exact lv_lmul h0.1 h0.2 hd (hk _ _ _ _ _ h ad ls H locs hA hl hP hD hS)
            | _ => exact h.elim
          · exact h.elim
      | _ => exact h.elim
    · exact h.elim
theorem wq_ldiv_ok (h0 : p.tables.exec = Jvm.exec ∧ c.code = cc)  (hd : decode cc pc = .ok (.ldiv, 1)) (hk : wq_Snd p l e R s m args below meth c nL cs D cl A Ag Q (pc + 1) (k)) : wq_Snd p l e R s m args below meth c nL cs D cl A Ag Q pc (wq_l2d (fun x y => x / y) k) := by
  intro L S w n1 n2 h ad ls H locs hA hl hP hD hS
  unfold wq_l2d at h
  rcases S with _ | ⟨a1, S⟩
  · exact h.elim
  · rcases a1 with a1 | q1
    · cases a1 with
      | long y =>
        rcases S with _ | ⟨a2, S⟩
        · exact h.elim
        · rcases a2 with a2 | q2
          · cases a2 with
            | long x => exact lv_ldiv h0.1 h0.2 hd h.1 (hk _ _ _ _ _ h.2 ad ls H locs hA hl hP hD hS)
            | _ => exact h.elim
          · exact h.elim
      | _ => exact h.elim
    · exact h.elim
theorem wq_lrem_ok (h0 : p.tables.exec = Jvm.exec ∧ c.code = cc)  (hd : decode cc pc = .ok (.lrem, 1)) (hk : wq_Snd p l e R s m args below meth c nL cs D cl A Ag Q (pc + 1) (k)) : wq_Snd p l e R s m args below meth c nL cs D cl A Ag Q pc (wq_l2d (fun x y => x - x / y * y) k) := by
  intro L S w n1 n2 h ad ls H locs hA hl hP hD hS
  unfold wq_l2d at h
  rcases S with _ | ⟨a1, S⟩
  · exact h.elim
  · rcases a1 with a1 | q1
    · cases a1 with
      | long y =>
        rcases S with _ | ⟨a2, S⟩
        · exact h.elim
        · rcases a2 with a2 | q2
          · cases a2 with
            | long x => exact lv_lrem h0.1 h0.2 hd h.1 (hk _ _ _ _ _ h.2 ad ls H locs hA hl hP hD hS)
            | _ => exact h.elim
          · exact h.elim
      | _ => exact h.elim
    · exact h.elim
theorem wq_i2l_ok (h0 : p.tables.exec = Jvm.exec ∧ c.code = cc)  (hd : decode cc pc = .ok (.i2l, 1)) (hk : wq_Snd p l e R s m args below meth c nL cs D cl A Ag Q (pc + 1) (k)) : wq_Snd p l e R s m args below meth c nL cs D cl A Ag Q pc (wq_i2l k) := by
  intro L S w n1 n2 h ad ls H locs hA hl hP hD hS
  unfold wq_i2l at h
  rcases S with _ | ⟨a1, S⟩
  · exact h.elim
  · rcases a1 with a1 | q1
    · cases a1 with
      | int x => exact lv_i2l h0.1 h0.2 hd rfl (hk _ _ _ _ _ h ad ls H locs hA hl hP hD hS)
      | _ => exact h.elim
    · exact h.elim
theorem wq_l2i_ok (h0 : p.tables.exec = Jvm.exec ∧ c.code = cc)  (hd : decode cc pc = .ok (.l2i, 1)) (hk : wq_Snd p l e R s m args below meth c nL cs D cl A Ag Q (pc + 1) (k)) : wq_Snd p l e R s m args below meth c nL cs D cl A Ag Q pc (wq_l2i k) := by
  intro L S w n1 n2 h ad ls H locs hA hl hP hD hS
  unfold wq_l2i at h
  rcases S with _ | ⟨a1, S⟩
  · exact h.elim
  · rcases a1 with a1 | q1
    · cases a1 with
      | long x => exact lv_l2i h0.1 h0.2 hd rfl (hk _ _ _ _ _ h ad ls H locs hA hl hP hD hS)
      | _ => exact h.elim
    · exact h.elim
theorem wq_cq {a b : Nat} {q : Prop} (h : cond (Nat.beq a b) q False) : a = b ∧ q := by
  cases hb : Nat.beq a b with
  | true => rw [hb] at h; exact ⟨Nat.eq_of_beq_eq_true hb, h⟩
  | false => rw [hb] at h; exact h.elim
def wq_le (a b : Nat) (q : Prop) : Prop := cond (Nat.ble a b) q False
theorem wq_le_ok {a b : Nat} {q : Prop} (h : wq_le a b q) : a ≤ b ∧ q := by
  unfold wq_le at h
  cases hb : Nat.ble a b with
  | true => rw [hb] at h; exact ⟨Nat.le_of_ble_eq_true hb, h⟩
  | false => rw [hb] at h; exact h.elim
theorem wq_le_of {a b : Nat} {q : Prop} (h : a ≤ b) (hq : q) : wq_le a b q := by
  unfold wq_le
  rw [Nat.ble_eq_true_of_le h]
  exact hq
def wq_dup (k : wq_T) : wq_T := fun L S w n1 n2 => match S with
  | a :: S' => cond (Nat.beq (wq_c a) 1) (k L (a :: a :: S') w n1 n2) False
  | _ => False
def wq_pop (k : wq_T) : wq_T := fun L S w n1 n2 => match S with
  | a :: S' => cond (Nat.beq (wq_c a) 1) (k L S' w n1 n2) False
  | _ => False
def wq_pop2 (k : wq_T) : wq_T := fun L S w n1 n2 => match S with
  | a :: S' => cond (Nat.beq (wq_c a) 2) (k L S' w n1 n2) False
  | _ => False
def wq_dup2 (k : wq_T) : wq_T := fun L S w n1 n2 => match S with
  | a :: b :: S' => cond (Nat.beq (wq_c a) 1) (cond (Nat.beq (wq_c b) 1) (k L (a :: b :: a :: b :: S') w n1 n2) False) False
  | _ => False
theorem wq_dup_ok (h0 : p.tables.exec = Jvm.exec ∧ c.code = cc)  (hd : decode cc pc = .ok (.dup, 1)) (hk : wq_Snd p l e R s m args below meth c nL cs D cl A Ag Q (pc + 1) (k)) : wq_Snd p l e R s m args below meth c nL cs D cl A Ag Q pc (wq_dup k) := by
  intro L S w n1 n2 h ad ls H locs hA hl hP hD hS
  unfold wq_dup at h
  rcases S with _ | ⟨a1, S⟩
  · exact h.elim
  · have h := wq_cq h
    exact lv_dup h0.1 h0.2 hd (by rw [wq_vc]; exact h.1) (hk _ _ _ _ _ h.2 ad ls H locs hA hl hP hD hS)
theorem wq_pop_ok (h0 : p.tables.exec = Jvm.exec ∧ c.code = cc)  (hd : decode cc pc = .ok (.pop, 1)) (hk : wq_Snd p l e R s m args below meth c nL cs D cl A Ag Q (pc + 1) (k)) : wq_Snd p l e R s m args below meth c nL cs D cl A Ag Q pc (wq_pop k) := by
  intro L S w n1 n2 h ad ls H locs hA hl hP hD hS
  unfold wq_pop at h
  rcases S with _ | ⟨a1, S⟩
  · exact h.elim
  · have h := wq_cq h
    exact lv_pop h0.1 h0.2 hd (by rw [wq_vc]; exact h.1) (hk _ _ _ _ _ h.2 ad ls H locs hA hl hP hD hS)
theorem wq_pop2_ok (h0 : p.tables.exec = Jvm.exec ∧ c.code = cc)  (hd : decode cc pc = .ok (.pop2, 1)) (hk : wq_Snd p l e R s m args below meth c nL cs D cl A Ag Q (pc + 1) (k)) : wq_Snd p l e R s m args below meth c nL cs D cl A Ag Q pc (wq_pop2 k) := by
  intro L S w n1 n2 h ad ls H locs hA hl hP hD hS
  unfold wq_pop2 at h
  rcases S with _ | ⟨a1, S⟩
  · exact h.elim
  · have h := wq_cq h
    exact lv_pop2_2 h0.1 h0.2 hd (by rw [wq_vc]; exact h.1) (hk _ _ _ _ _ h.2 ad ls H locs hA hl hP hD hS)
theorem wq_dup2_ok (h0 : p.tables.exec = Jvm.exec ∧ c.code = cc)  (hd : decode cc pc = .ok (.dup2, 1)) (hk : wq_Snd p l e R s m args below meth c nL cs D cl A Ag Q (pc + 1) (k)) : wq_Snd p l e R s m args below meth c nL cs D cl A Ag Q pc (wq_dup2 k) := by
  intro L S w n1 n2 h ad ls H locs hA hl hP hD hS
  unfold wq_dup2 at h
  rcases S with _ | ⟨a1, _ | ⟨a2, S⟩⟩
  · exact h.elim
  · exact h.elim
  · have h := wq_cq h
    have h9 := wq_cq h.2
    exact lv_dup2_11 h0.1 h0.2 hd (by rw [wq_vc]; exact h.1) (by rw [wq_vc]; exact h9.1) (hk _ _ _ _ _ h9.2 ad ls H locs hA hl hP hD hS)
def wq_f1 (f : Int32 → Prop) (k1 k2 : wq_T) : wq_T := fun L S w n1 n2 => match S with
  | .inl (.int x) :: S' => (f x → k1 L S' w n1 n2) ∧ (¬ f x → k2 L S' w n1 n2)
  | _ => False
def wq_f2 (f : Int32 → Int32 → Prop) (k1 k2 : wq_T) : wq_T := fun L S w n1 n2 => match S with
  | .inl (.int y) :: .inl (.int x) :: S' => (f x y → k1 L S' w n1 n2) ∧ (¬ f x y → k2 L S' w n1 n2)
  | _ => False
def wq_fl (f : Int64 → Int64 → Prop) (k1 k2 : wq_T) : wq_T := fun L S w n1 n2 => match S with
  | .inl (.long y) :: .inl (.long x) :: S' => (f x y → k1 L S' w n1 n2) ∧ (¬ f x y → k2 L S' w n1 n2)
  | _ => False
theorem wq_if_eq_ok (h0 : p.tables.exec = Jvm.exec ∧ c.code = cc) {off : Int} {tgt : Nat} (hd : decode cc pc = .ok (.ifCond .eq off, 3)) (ht : (pc : Int) + off = (tgt : Int)) (hk1 : wq_Snd p l e R s m args below meth c nL cs D cl A Ag Q tgt (k1)) (hk2 : wq_Snd p l e R s m args below meth c nL cs D cl A Ag Q (pc + 3) (k2)) : wq_Snd p l e R s m args below meth c nL cs D cl A Ag Q pc (wq_f1 (fun x => x = 0) k1 k2) := by
  intro L S w n1 n2 h ad ls H locs hA hl hP hD hS
  unfold wq_f1 at h
  rcases S with _ | ⟨a1, S⟩
  · exact h.elim
  · rcases a1 with a1 | q1
    · cases a1 with
      | int x => exact lv_if_eq h0.1 h0.2 hd ht (fun z => hk1 _ _ _ _ _ (h.1 z) ad ls H locs hA hl hP hD hS) (fun z => hk2 _ _ _ _ _ (h.2 z) ad ls H locs hA hl hP hD hS)
      | _ => exact h.elim
    · exact h.elim
theorem wq_icmp_eq_ok (h0 : p.tables.exec = Jvm.exec ∧ c.code = cc) {off : Int} {tgt : Nat} (hd : decode cc pc = .ok (.if_icmp .eq off, 3)) (ht : (pc : Int) + off = (tgt : Int)) (hk1 : wq_Snd p l e R s m args below meth c nL cs D cl A Ag Q tgt (k1)) (hk2 : wq_Snd p l e R s m args below meth c nL cs D cl A Ag Q (pc + 3) (k2)) : wq_Snd p l e R s m args below meth c nL cs D cl A Ag Q pc (wq_f2 (fun x y => x = y) k1 k2) := by
  intro L S w n1 n2 h ad ls H locs hA hl hP hD hS
  unfold wq_f2 at h
  rcases S with _ | ⟨a1, S⟩
  · exact h.elim
  · rcases a1 with a1 | q1
    · cases a1 with
      | int y =>
        rcases S with _ | ⟨a2, S⟩
        · exact h.elim
        · rcases a2 with a2 | q2
          · cases a2 with
            | int x => exact lv_icmp_eq h0.1 h0.2 hd ht (fun z => hk1 _ _ _ _ _ (h.1 z) ad ls H locs hA hl hP hD hS) (fun z => hk2 _ _ _ _ _ (h.2 z) ad ls H locs hA hl hP hD hS)
            | _ => exact h.elim
          · exact h.elim
      | _ => exact h.elim
    · exact h.elim
theorem wq_lg_eq (x y : Int64) : lg_cmp x y = 0 ↔ x = y := by
  unfold lg_cmp
  simp only [gt_iff_lt, Int64.lt_iff_toInt_lt, Int64.le_iff_toInt_le, ← Int64.toInt_inj]
  by_cases h1 : y.toInt < x.toInt
  · rw [if_pos h1]; constructor <;> intro h <;> first | omega | exact absurd h (by decide) | (exact fun q => absurd q (by decide)) | decide
  · rw [if_neg h1]
    by_cases h2 : x.toInt = y.toInt
    · rw [if_pos h2]; constructor <;> intro h <;> first | omega | exact absurd h (by decide) | (exact fun q => absurd q (by decide)) | decide
    · rw [if_neg h2]; constructor <;> intro h <;> first | omega | exact absurd h (by decide) | (exact fun q => absurd q (by decide)) | decide
theorem wq_lcmp_eq_ok (h0 : p.tables.exec = Jvm.exec ∧ c.code = cc) {off : Int} {tgt : Nat} (hd0 : decode cc pc = .ok (.lcmp, 1)) (hd : decode cc (pc + 1) = .ok (.ifCond .eq off, 3)) (ht : ((pc + 1 : Nat) : Int) + off = (tgt : Int)) (hk1 : wq_Snd p l e R s m args below meth c nL cs D cl A Ag Q tgt (k1)) (hk2 : wq_Snd p l e R s m args below meth c nL cs D cl A Ag Q (pc + 1 + 3) (k2)) : wq_Snd p l e R s m args below meth c nL cs D cl A Ag Q pc (wq_fl (fun x y => x = y) k1 k2) := by
  intro L S w n1 n2 h ad ls H locs hA hl hP hD hS
  unfold wq_fl at h
  rcases S with _ | ⟨a1, S⟩
  · exact h.elim
  · rcases a1 with a1 | q1
    · cases a1 with
      | long y =>
        rcases S with _ | ⟨a2, S⟩
        · exact h.elim
        · rcases a2 with a2 | q2
          · cases a2 with
            | long x => exact W.lcmp h0.1 h0.2 hd0 (lv_if_eq h0.1 h0.2 hd ht (fun z => hk1 _ _ _ _ _ (h.1 ((wq_lg_eq x y).mp z)) ad ls H locs hA hl hP hD hS) (fun z => hk2 _ _ _ _ _ (h.2 (fun q => z ((wq_lg_eq x y).mpr q))) ad ls H locs hA hl hP hD hS))
            | _ => exact h.elim
          · exact h.elim
      | _ => exact h.elim
    · exact h.elim
theorem wq_if_ne_ok (h0 : p.tables.exec = Jvm.exec ∧ c.code = cc) {off : Int} {tgt : Nat} (hd : decode cc pc = .ok (.ifCond .ne off, 3)) (ht : (pc : Int) + off = (tgt : Int)) (hk1 : wq_Snd p l e R s m args below meth c nL cs D cl A Ag Q tgt (k1)) (hk2 : wq_Snd p l e R s m args below meth c nL cs D cl A Ag Q (pc + 3) (k2)) : wq_Snd p l e R s m args below meth c nL cs D cl A Ag Q pc (wq_f1 (fun x => x = 0) k2 k1) := by
  intro L S w n1 n2 h ad ls H locs hA hl hP hD hS
  unfold wq_f1 at h
  rcases S with _ | ⟨a1, S⟩
  · exact h.elim
  · rcases a1 with a1 | q1
    · cases a1 with
      | int x => exact lv_if_ne h0.1 h0.2 hd ht (fun z => hk1 _ _ _ _ _ (h.2 z) ad ls H locs hA hl hP hD hS) (fun z => hk2 _ _ _ _ _ (h.1 z) ad ls H locs hA hl hP hD hS)
      | _ => exact h.elim
    · exact h.elim
theorem wq_icmp_ne_ok (h0 : p.tables.exec = Jvm.exec ∧ c.code = cc) {off : Int} {tgt : Nat} (hd : decode cc pc = .ok (.if_icmp .ne off, 3)) (ht : (pc : Int) + off = (tgt : Int)) (hk1 : wq_Snd p l e R s m args below meth c nL cs D cl A Ag Q tgt (k1)) (hk2 : wq_Snd p l e R s m args below meth c nL cs D cl A Ag Q (pc + 3) (k2)) : wq_Snd p l e R s m args below meth c nL cs D cl A Ag Q pc (wq_f2 (fun x y => x = y) k2 k1) := by
  intro L S w n1 n2 h ad ls H locs hA hl hP hD hS
  unfold wq_f2 at h
  rcases S with _ | ⟨a1, S⟩
  · exact h.elim
  · rcases a1 with a1 | q1
    · cases a1 with
      | int y =>
        rcases S with _ | ⟨a2, S⟩
        · exact h.elim
        · rcases a2 with a2 | q2
          · cases a2 with
            | int x => exact lv_icmp_ne h0.1 h0.2 hd ht (fun z => hk1 _ _ _ _ _ (h.2 z) ad ls H locs hA hl hP hD hS) (fun z => hk2 _ _ _ _ _ (h.1 z) ad ls H locs hA hl hP hD hS)
            | _ => exact h.elim
          · exact h.elim
      | _ => exact h.elim
    · exact h.elim
theorem wq_lcmp_ne_ok (h0 : p.tables.exec = Jvm.exec ∧ c.code = cc) {off : Int} {tgt : Nat} (hd0 : decode cc pc = .ok (.lcmp, 1)) (hd : decode cc (pc + 1) = .ok (.ifCond .ne off, 3)) (ht : ((pc + 1 : Nat) : Int) + off = (tgt : Int)) (hk1 : wq_Snd p l e R s m args below meth c nL cs D cl A Ag Q tgt (k1)) (hk2 : wq_Snd p l e R s m args below meth c nL cs D cl A Ag Q (pc + 1 + 3) (k2)) : wq_Snd p l e R s m args below meth c nL cs D cl A Ag Q pc (wq_fl (fun x y => x = y) k2 k1) := by
  intro L S w n1 n2 h ad ls H locs hA hl hP hD hS
  unfold wq_fl at h
  rcases S with _ | ⟨a1, S⟩
  · exact h.elim
  · rcases a1 with a1 | q1
    · cases a1 with
      | long y =>
        rcases S with _ | ⟨a2, S⟩
        · exact h.elim
        · rcases a2 with a2 | q2
          · cases a2 with
            | long x => exact W.lcmp h0.1 h0.2 hd0 (lv_if_ne h0.1 h0.2 hd ht (fun z => hk1 _ _ _ _ _ (h.2 (fun q => z ((wq_lg_eq x y).mpr q))) ad ls H locs hA hl hP hD hS) (fun z => hk2 _ _ _ _ _ (h.1 ((wq_lg_eq x y).mp z)) ad ls H locs hA hl hP hD hS))
            | _ => exact h.elim
          · exact h.elim
      | _ => exact h.elim
    · exact h.elim
theorem wq_if_lt_ok (h0 : p.tables.exec = Jvm.exec ∧ c.code = cc) {off : Int} {tgt : Nat} (hd : decode cc pc = .ok (.ifCond .lt off, 3)) (ht : (pc : Int) + off = (tgt : Int)) (hk1 : wq_Snd p l e R s m args below meth c nL cs D cl A Ag Q tgt (k1)) (hk2 : wq_Snd p l e R s m args below meth c nL cs D cl A Ag Q (pc + 3) (k2)) : wq_Snd p l e R s m args below meth c nL cs D cl A Ag Q pc (wq_f1 (fun x => x < 0) k1 k2) := by
  intro L S w n1 n2 h ad ls H locs hA hl hP hD hS
  unfold wq_f1 at h
  rcases S with _ | ⟨a1, S⟩
  · exact h.elim
  · rcases a1 with a1 | q1
    · cases a1 with
      | int x => exact lv_if_lt h0.1 h0.2 hd ht (fun z => hk1 _ _ _ _ _ (h.1 z) ad ls H locs hA hl hP hD hS) (fun z => hk2 _ _ _ _ _ (h.2 z) ad ls H locs hA hl hP hD hS)
      | _ => exact h.elim
    · exact h.elim
theorem wq_icmp_lt_ok (h0 : p.tables.exec = Jvm.exec ∧ c.code = cc) {off : Int} {tgt : Nat} (hd : decode cc pc = .ok (.if_icmp .lt off, 3)) (ht : (pc : Int) + off = (tgt : Int)) (hk1 : wq_Snd p l e R s m args below meth c nL cs D cl A Ag Q tgt (k1)) (hk2 : wq_Snd p l e R s m args below meth c nL cs D cl A Ag Q (pc + 3) (k2)) : wq_Snd p l e R s m args below meth c nL cs D cl A Ag Q pc (wq_f2 (fun x y => x < y) k1 k2) := by
  intro L S w n1 n2 h ad ls H locs hA hl hP hD hS
  unfold wq_f2 at h
  rcases S with _ | ⟨a1, S⟩
  · exact h.elim
  · rcases a1 with a1 | q1
    · cases a1 with
      | int y =>
        rcases S with _ | ⟨a2, S⟩
        · exact h.elim
        · rcases a2 with a2 | q2
          · cases a2 with
            | int x => exact lv_icmp_lt h0.1 h0.2 hd ht (fun z => hk1 _ _ _ _ _ (h.1 z) ad ls H locs hA hl hP hD hS) (fun z => hk2 _ _ _ _ _ (h.2 z) ad ls H locs hA hl hP hD hS)
            | _ => exact h.elim
          · exact h.elim
      | _ => exact h.elim
    · exact h.elim
theorem wq_lg_lt (x y : Int64) : lg_cmp x y < 0 ↔ x < y := by
  unfold lg_cmp
  simp only [gt_iff_lt, Int64.lt_iff_toInt_lt, Int64.le_iff_toInt_le, ← Int64.toInt_inj]
  by_cases h1 : y.toInt < x.toInt
  · rw [if_pos h1]; constructor <;> intro h <;> first | omega | exact absurd h (by decide) | (exact fun q => absurd q (by decide)) | decide
  · rw [if_neg h1]
    by_cases h2 : x.toInt = y.toInt
    · rw [if_pos h2]; constructor <;> intro h <;> first | omega | exact absurd h (by decide) | (exact fun q => absurd q (by decide)) | decide
    · rw [if_neg h2]; constructor <;> intro h <;> first | omega | exact absurd h (by decide) | (exact fun q => absurd q (by decide)) | decide
theorem wq_lcmp_lt_ok (h0 : p.tables.exec = Jvm.exec ∧ c.code = cc) {off : Int} {tgt : Nat} (hd0 : decode cc pc = .ok (.lcmp, 1)) (hd : decode cc (pc + 1) = .ok (.ifCond .lt off, 3)) (ht : ((pc + 1 : Nat) : Int) + off = (tgt : Int)) (hk1 : wq_Snd p l e R s m args below meth c nL cs D cl A Ag Q tgt (k1)) (hk2 : wq_Snd p l e R s m args below meth c nL cs D cl A Ag Q (pc + 1 + 3) (k2)) : wq_Snd p l e R s m args below meth c nL cs D cl A Ag Q pc (wq_fl (fun x y => x < y) k1 k2) := by
  intro L S w n1 n2 h ad ls H locs hA hl hP hD hS
  unfold wq_fl at h
  rcases S with _ | ⟨a1, S⟩
  · exact h.elim
  · rcases a1 with a1 | q1
    · cases a1 with
      | long y =>
        rcases S with _ | ⟨a2, S⟩
        · exact h.elim
        · rcases a2 with a2 | q2
          · cases a2 with
            | long x => exact W.lcmp h0.1 h0.2 hd0 (lv_if_lt h0.1 h0.2 hd ht (fun z => hk1 _ _ _ _ _ (h.1 ((wq_lg_lt x y).mp z)) ad ls H locs hA hl hP hD hS) (fun z => hk2 _ _ _ _ _ (h.2 (fun q => z ((wq_lg_lt x y).mpr q))) ad ls H locs hA hl hP hD hS))
            | _ => exact h.elim
          · exact h.elim
      | _ => exact h.elim
    · exact h.elim
theorem wq_if_ge_ok (h0 : p.tables.exec = Jvm.exec ∧ c.code = cc) {off : Int} {tgt : Nat} (hd : decode cc pc = .ok (.ifCond .ge off, 3)) (ht : (pc : Int) + off = (tgt : Int)) (hk1 : wq_Snd p l e R s m args below meth c nL cs D cl A Ag Q tgt (k1)) (hk2 : wq_Snd p l e R s m args below meth c nL cs D cl A Ag Q (pc + 3) (k2)) : wq_Snd p l e R s m args below meth c nL cs D cl A Ag Q pc (wq_f1 (fun x => 0 ≤ x) k1 k2) := by
  intro L S w n1 n2 h ad ls H locs hA hl hP hD hS
  unfold wq_f1 at h
  rcases S with _ | ⟨a1, S⟩
  · exact h.elim
  · rcases a1 with a1 | q1
    · cases a1 with
      | int x => exact lv_if_ge h0.1 h0.2 hd ht (fun z => hk1 _ _ _ _ _ (h.1 z) ad ls H locs hA hl hP hD hS) (fun z => hk2 _ _ _ _ _ (h.2 z) ad ls H locs hA hl hP hD hS)
      | _ => exact h.elim
    · exact h.elim
theorem wq_icmp_ge_ok (h0 : p.tables.exec = Jvm.exec ∧ c.code = cc) {off : Int} {tgt : Nat} (hd : decode cc pc = .ok (.if_icmp .ge off, 3)) (ht : (pc : Int) + off = (tgt : Int)) (hk1 : wq_Snd p l e R s m args below meth c nL cs D cl A Ag Q tgt (k1)) (hk2 : wq_Snd p l e R s m args below meth c nL cs D cl A Ag Q (pc + 3) (k2)) : wq_Snd p l e R s m args below meth c nL cs D cl A Ag Q pc (wq_f2 (fun x y => y ≤ x) k1 k2) := by
  intro L S w n1 n2 h ad ls H locs hA hl hP hD hS
  unfold wq_f2 at h
  rcases S with _ | ⟨a1, S⟩
  · exact h.elim
  · rcases a1 with a1 | q1
    · cases a1 with
      | int y =>
        rcases S with _ | ⟨a2, S⟩
        · exact h.elim
        · rcases a2 with a2 | q2
          · cases a2 with
            | int x => exact lv_icmp_ge h0.1 h0.2 hd ht (fun z => hk1 _ _ _ _ _ (h.1 z) ad ls H locs hA hl hP hD hS) (fun z => hk2 _ _ _ _ _ (h.2 z) ad ls H locs hA hl hP hD hS)
            | _ => exact h.elim
          · exact h.elim
      | _ => exact h.elim
    · exact h.elim
theorem wq_lg_ge (x y : Int64) : 0 ≤ lg_cmp x y ↔ y ≤ x := by
  unfold lg_cmp
  simp only [gt_iff_lt, Int64.lt_iff_toInt_lt, Int64.le_iff_toInt_le, ← Int64.toInt_inj]
  by_cases h1 : y.toInt < x.toInt
  · rw [if_pos h1]; constructor <;> intro h <;> first | omega | exact absurd h (by decide) | (exact fun q => absurd q (by decide)) | decide
  · rw [if_neg h1]
    by_cases h2 : x.toInt = y.toInt
    · rw [if_pos h2]; constructor <;> intro h <;> first | omega | exact absurd h (by decide) | (exact fun q => absurd q (by decide)) | decide
    · rw [if_neg h2]; constructor <;> intro h <;> first | omega | exact absurd h (by decide) | (exact fun q => absurd q (by decide)) | decide
theorem wq_lcmp_ge_ok (h0 : p.tables.exec = Jvm.exec ∧ c.code = cc) {off : Int} {tgt : Nat} (hd0 : decode cc pc = .ok (.lcmp, 1)) (hd : decode cc (pc + 1) = .ok (.ifCond .ge off, 3)) (ht : ((pc + 1 : Nat) : Int) + off = (tgt : Int)) (hk1 : wq_Snd p l e R s m args below meth c nL cs D cl A Ag Q tgt (k1)) (hk2 : wq_Snd p l e R s m args below meth c nL cs D cl A Ag Q (pc + 1 + 3) (k2)) : wq_Snd p l e R s m args below meth c nL cs D cl A Ag Q pc (wq_fl (fun x y => y ≤ x) k1 k2) := by
  intro L S w n1 n2 h ad ls H locs hA hl hP hD hS
  unfold wq_fl at h
  rcases S with _ | ⟨a1, S⟩
  · exact h.elim
  · rcases a1 with a1 | q1
    · cases a1 with
      | long y =>
        rcases S with _ | ⟨a2, S⟩
        · exact h.elim
        · rcases a2 with a2 | q2
          · cases a2 with
            | long x => exact W.lcmp h0.1 h0.2 hd0 (lv_if_ge h0.1 h0.2 hd ht (fun z => hk1 _ _ _ _ _ (h.1 ((wq_lg_ge x y).mp z)) ad ls H locs hA hl hP hD hS) (fun z => hk2 _ _ _ _ _ (h.2 (fun q => z ((wq_lg_ge x y).mpr q))) ad ls H locs hA hl hP hD hS))
            | _ => exact h.elim
          · exact h.elim
      | _ => exact h.elim
    · exact h.elim
theorem wq_if_gt_ok (h0 : p.tables.exec = Jvm.exec ∧ c.code = cc) {off : Int} {tgt : Nat} (hd : decode cc pc = .ok (.ifCond .gt off, 3)) (ht : (pc : Int) + off = (tgt : Int)) (hk1 : wq_Snd p l e R s m args below meth c nL cs D cl A Ag Q tgt (k1)) (hk2 : wq_Snd p l e R s m args below meth c nL cs D cl A Ag Q (pc + 3) (k2)) : wq_Snd p l e R s m args below meth c nL cs D cl A Ag Q pc (wq_f1 (fun x => 0 < x) k1 k2) := by
  intro L S w n1 n2 h ad ls H locs hA hl hP hD hS
  unfold wq_f1 at h
  rcases S with _ | ⟨a1, S⟩
  · exact h.elim
  · rcases a1 with a1 | q1
    · cases a1 with
      | int x => exact lv_if_gt h0.1 h0.2 hd ht (fun z => hk1 _ _ _ _ _ (h.1 z) ad ls H locs hA hl hP hD hS) (fun z => hk2 _ _ _ _ _ (h.2 z) ad ls H locs hA hl hP hD hS)
      | _ => exact h.elim
    · exact h.elim
theorem wq_icmp_gt_ok (h0 : p.tables.exec = Jvm.exec ∧ c.code = cc) {off : Int} {tgt : Nat} (hd : decode cc pc = .ok (.if_icmp .gt off, 3)) (ht : (pc : Int) + off = (tgt : Int)) (hk1 : wq_Snd p l e R s m args below meth c nL cs D cl A Ag Q tgt (k1)) (hk2 : wq_Snd p l e R s m args below meth c nL cs D cl A Ag Q (pc + 3) (k2)) : wq_Snd p l e R s m args below meth c nL cs D cl A Ag Q pc (wq_f2 (fun x y => y < x) k1 k2) := by
  intro L S w n1 n2 h ad ls H locs hA hl hP hD hS
  unfold wq_f2 at h
  rcases S with _ | ⟨a1, S⟩
  · exact h.elim
  · rcases a1 with a1 | q1
    · cases a1 with
      | int y =>
        rcases S with _ | ⟨a2, S⟩
        · exact h.elim
        · rcases a2 with a2 | q2
          · cases a2 with
            | int x => exact lv_icmp_gt h0.1 h0.2 hd ht (fun z => hk1 _ _ _ _ _ (h.1 z) ad ls H locs hA hl hP hD hS) (fun z => hk2 _ _ _ _ _ (h.2 z) ad ls H locs hA hl hP hD hS)
            | _ => exact h.elim
          · exact h.elim
      | _ => exact h.elim
    · exact h.elim
theorem wq_lg_gt (x y : Int64) : 0 < lg_cmp x y ↔ y < x := by
  unfold lg_cmp
  simp only [gt_iff_lt, Int64.lt_iff_toInt_lt, Int64.le_iff_toInt_le, ← Int64.toInt_inj]
  by_cases h1 : y.toInt < x.toInt
  · rw [if_pos h1]; constructor <;> intro h <;> first | omega | exact absurd h (by decide) | (exact fun q => absurd q (by decide)) | decide
  · rw [if_neg h1]
    by_cases h2 : x.toInt = y.toInt
    · rw [if_pos h2]; constructor <;> intro h <;> first | omega | exact absurd h (by decide) | (exact fun q => absurd q (by decide)) | decide
    · rw [if_neg h2]; constructor <;> intro h <;> first | omega | exact absurd h (by decide) | (exact fun q => absurd q (by decide)) | decide
theorem wq_lcmp_gt_ok (h0 : p.tables.exec = Jvm.exec ∧ c.code = cc) {off : Int} {tgt : Nat} (hd0 : decode cc pc = .ok (.lcmp, 1)) (hd : decode cc (pc + 1) = .ok (.ifCond .gt off, 3)) (ht : ((pc + 1 : Nat) : Int) + off = (tgt : Int)) (hk1 : wq_Snd p l e R s m args below meth c nL cs D cl A Ag Q tgt (k1)) (hk2 : wq_Snd p l e R s m args below meth c nL cs D cl A Ag Q (pc + 1 + 3) (k2)) : wq_Snd p l e R s m args below meth c nL cs D cl A Ag Q pc (wq_fl (fun x y => y < x) k1 k2) := by
  intro L S w n1 n2 h ad ls H locs hA hl hP hD hS
  unfold wq_fl at h
  rcases S with _ | ⟨a1, S⟩
  · exact h.elim
  · rcases a1 with a1 | q1
    · cases a1 with
      | long y =>
        rcases S with _ | ⟨a2, S⟩
        · exact h.elim
        · rcases a2 with a2 | q2
          · cases a2 with
            | long x => exact W.lcmp h0.1 h0.2 hd0 (lv_if_gt h0.1 h0.2 hd ht (fun z => hk1 _ _ _ _ _ (h.1 ((wq_lg_gt x y).mp z)) ad ls H locs hA hl hP hD hS) (fun z => hk2 _ _ _ _ _ (h.2 (fun q => z ((wq_lg_gt x y).mpr q))) ad ls H locs hA hl hP hD hS))
            | _ => exact h.elim
          · exact h.elim
      | _ => exact h.elim
    · exact h.elim
theorem wq_if_le_ok (h0 : p.tables.exec = Jvm.exec ∧ c.code = cc) {off : Int} {tgt : Nat} (hd : decode cc pc = .ok (.ifCond .le off, 3)) (ht : (pc : Int) + off = (tgt : Int)) (hk1 : wq_Snd p l e R s m args below meth c nL cs D cl A Ag Q tgt (k1)) (hk2 : wq_Snd p l e R s m args below meth c nL cs D cl A Ag Q (pc + 3) (k2)) : wq_Snd p l e R s m args below meth c nL cs D cl A Ag Q pc (wq_f1 (fun x => x ≤ 0) k1 k2) := by
  intro L S w n1 n2 h ad ls H locs hA hl hP hD hS
  unfold wq_f1 at h
  rcases S with _ | ⟨a1, S⟩
  · exact h.elim
  · rcases a1 with a1 | q1
    · cases a1 with
      | int x => exact lv_if_le h0.1 h0.2 hd ht (fun z => hk1 _ _ _ _ _ (h.1 z) ad ls H locs hA hl hP hD hS) (fun z => hk2 _ _ _ _ _ (h.2 z) ad ls H locs hA hl hP hD hS)
      | _ => exact h.elim
    · exact h.elim
theorem wq_icmp_le_ok (h0 : p.tables.exec = Jvm.exec ∧ c.code = cc) {off : Int} {tgt : Nat} (hd : decode cc pc = .ok (.if_icmp .le off, 3)) (ht : (pc : Int) + off = (tgt : Int)) (hk1 : wq_Snd p l e R s m args below meth c nL cs D cl A Ag Q tgt (k1)) (hk2 : wq_Snd p l e R s m args below meth c nL cs D cl A Ag Q (pc + 3) (k2)) : wq_Snd p l e R s m args below meth c nL cs D cl A Ag Q pc (wq_f2 (fun x y => x ≤ y) k1 k2) := by
  intro L S w n1 n2 h ad ls H locs hA hl hP hD hS
  unfold wq_f2 at h
  rcases S with _ | ⟨a1, S⟩
  · exact h.elim
  · rcases a1 with a1 | q1
    · cases a1 with
      | int y =>
        rcases S with _ | ⟨a2, S⟩
        · exact h.elim
        · rcases a2 with a2 | q2
          · cases a2 with
            | int x => exact lv_icmp_le h0.1 h0.2 hd ht (fun z => hk1 _ _ _ _ _ (h.1 z) ad ls H locs hA hl hP hD hS) (fun z => hk2 _ _ _ _ _ (h.2 z) ad ls H locs hA hl hP hD hS)
            | _ => exact h.elim
          · exact h.elim
      | _ => exact h.elim
    · exact h.elim
theorem wq_lg_le (x y : Int64) : lg_cmp x y ≤ 0 ↔ x ≤ y := by
  unfold lg_cmp
  simp only [gt_iff_lt, Int64.lt_iff_toInt_lt, Int64.le_iff_toInt_le, ← Int64.toInt_inj]
  by_cases h1 : y.toInt < x.toInt
  · rw [if_pos h1]; constructor <;> intro h <;> first | omega | exact absurd h (by decide) | (exact fun q => absurd q (by decide)) | decide
  · rw [if_neg h1]
    by_cases h2 : x.toInt = y.toInt
    · rw [if_pos h2]; constructor <;> intro h <;> first | omega | exact absurd h (by decide) | (exact fun q => absurd q (by decide)) | decide
    · rw [if_neg h2]; constructor <;> intro h <;> first | omega | exact absurd h (by decide) | (exact fun q => absurd q (by decide)) | decide
theorem wq_lcmp_le_ok (h0 : p.tables.exec = Jvm.exec ∧ c.code = cc) {off : Int} {tgt : Nat} (hd0 : decode cc pc = .ok (.lcmp, 1)) (hd : decode cc (pc + 1) = .ok (.ifCond .le off, 3)) (ht : ((pc + 1 : Nat) : Int) + off = (tgt : Int)) (hk1 : wq_Snd p l e R s m args below meth c nL cs D cl A Ag Q tgt (k1)) (hk2 : wq_Snd p l e R s m args below meth c nL cs D cl A Ag Q (pc + 1 + 3) (k2)) : wq_Snd p l e R s m args below meth c nL cs D cl A Ag Q pc (wq_fl (fun x y => x ≤ y) k1 k2) := by
  intro L S w n1 n2 h ad ls H locs hA hl hP hD hS
  unfold wq_fl at h
  rcases S with _ | ⟨a1, S⟩
  · exact h.elim
  · rcases a1 with a1 | q1
    · cases a1 with
      | long y =>
        rcases S with _ | ⟨a2, S⟩
        · exact h.elim
        · rcases a2 with a2 | q2
          · cases a2 with
            | long x => exact W.lcmp h0.1 h0.2 hd0 (lv_if_le h0.1 h0.2 hd ht (fun z => hk1 _ _ _ _ _ (h.1 ((wq_lg_le x y).mp z)) ad ls H locs hA hl hP hD hS) (fun z => hk2 _ _ _ _ _ (h.2 (fun q => z ((wq_lg_le x y).mpr q))) ad ls H locs hA hl hP hD hS))
            | _ => exact h.elim
          · exact h.elim
      | _ => exact h.elim
    · exact h.elim
theorem wq_goto_ok (h0 : p.tables.exec = Jvm.exec ∧ c.code = cc) {off : Int} {tgt : Nat} (hd : decode cc pc = .ok (.goto off, 3)) (ht : (pc : Int) + off = (tgt : Int)) (hk : wq_Snd p l e R s m args below meth c nL cs D cl A Ag Q tgt (k)) : wq_Snd p l e R s m args below meth c nL cs D cl A Ag Q pc (k) := by
  intro L S w n1 n2 h ad ls H locs hA hl hP hD hS
  exact lv_goto h0.1 h0.2 hd ht (hk _ _ _ _ _ h ad ls H locs hA hl hP hD hS)
def wq_get (ci j : Nat) (k : wq_T) : wq_T := fun L S w n1 n2 => match S with
  | .inl (.ref p) :: S' => match wq_n w p with
    | some (.inr (.inl o)) => cond (Nat.beq o.1 ci) (match o.2[j]? with
      | some v => k L (v :: S') w n1 n2
      | none => False) False
    | _ => False
  | _ => False
/-- getfield at index: field j of the objects of number ci -/
def wq_GetOK (p : Program) (l : Launch) (e : Env) (R : Room) (s : State) (m : MethodId) (args : Array Value) (below : List Frame) (meth : Method) (c : Code) (D : va_G) (cl : List vw_C) (Q : State → Prop) (cc : ByteArray) (index ci j : Nat) : Prop :=
  ∀ (H : Heap) (locs : List Loc) (n1 n2 pc : Nat) (ls : Array Slot) (rest : List Value) (a : Nat) (fs : List Value) (v : Value), va_at D cl (a, .inr (ci, fs)) H → fs[j]? = some v → decode cc pc = .ok (.getfield index, 3) →
    W p l e R s m args below meth c H locs n1 n2 Q (F0 m (pc + 3) ls (v :: rest)) → W p l e R s m args below meth c H locs n1 n2 Q (F0 m pc ls (.ref a :: rest))
theorem wq_get_ok {index ci j : Nat} (hf : wq_GetOK p l e R s m args below meth c D cl Q cc index ci j) (hd : decode cc pc = .ok (.getfield index, 3)) (hk : wq_Snd p l e R s m args below meth c nL cs D cl A Ag Q (pc + 3) (k)) : wq_Snd p l e R s m args below meth c nL cs D cl A Ag Q pc (wq_get ci j k) := by
  intro L S w n1 n2 h ad ls H locs hA hl hP hD hS
  unfold wq_get at h
  rcases S with _ | ⟨a1, S⟩
  · exact h.elim
  · rcases a1 with a1 | q1
    · cases a1 with
      | ref x => (
      cases hg : wq_n w x with
      | none => simp only [hg] at h
      | some en =>
        simp only [hg] at h
        rcases en with a | o | g
        · exact h.elim
        · cases hb : Nat.beq o.1 ci with
          | false => simp only [hb] at h; exact h.elim
          | true =>
            simp only [hb, cond_true] at h
            have hci : o.1 = ci := Nat.eq_of_beq_eq_true hb
            cases hv : o.2[j]? with
            | none => rw [hv] at h; exact h.elim
            | some v =>
              rw [hv] at h
              have hh := hP x _ hg
              refine hf H locs n1 n2 pc ls _ (ad x 0) (o.2.map (wq_v ad)) (wq_v ad v) (by rw [← hci]; exact hh) (by rw [List.getElem?_map, hv]; rfl) hd (hk _ _ _ _ _ h ad ls H locs hA hl hP hD hS)
        · exact h.elim)
      | _ => exact h.elim
    · exact h.elim
def wq_put (ci j : Nat) (ok : wq_V → Bool) (k : wq_T) : wq_T := fun L S w n1 n2 => match S with
  | v :: .inl (.ref p) :: S' => match wq_n w p with
    | some (.inr (.inl (c9, fs))) => cond (Nat.beq c9 ci && (ok v && Nat.blt j fs.length)) (wq_nf (fs.set j v) (fun fs' => wq_nf (wq_u w p (.inr (.inl (c9, fs')))) (fun w' => k L S' w' n1 n2))) False
    | _ => False
  | _ => False
def wq_PutOK (p : Program) (l : Launch) (e : Env) (R : Room) (s : State) (m : MethodId) (args : Array Value) (below : List Frame) (meth : Method) (c : Code) (D : va_G) (cl : List vw_C) (Q : State → Prop) (cc : ByteArray) (index ci j : Nat) (ok : wq_V → Bool) : Prop :=
  ∀ (ad : wq_Ad) (H : Heap) (locs : List Loc) (n1 n2 pc : Nat) (ls : Array Slot) (rest : List Value) (a : Nat) (fs : List Value) (x : wq_V), ok x = true → va_at D cl (a, .inr (ci, fs)) H → j < fs.length → decode cc pc = .ok (.putfield index, 3) →
    (∀ (H1 : Heap) (i9 : Nat), va_at D cl (a, .inr (ci, fs.set j (wq_v ad x))) H1 → H1.size = H.size → (∀ q, q ≠ a → H1[q]? = H[q]?) → W p l e R s m args below meth c H1 (locs ++ [⟨a, i9⟩]) n1 n2 Q (F0 m (pc + 3) ls rest)) → W p l e R s m args below meth c H locs n1 n2 Q (F0 m pc ls (wq_v ad x :: .ref a :: rest))
theorem wq_put_ok {index ci j : Nat} {ok : wq_V → Bool} (hf : wq_PutOK p l e R s m args below meth c D cl Q cc index ci j ok) (hd : decode cc pc = .ok (.putfield index, 3)) (hk : wq_Snd p l e R s m args below meth c nL cs D cl A Ag Q (pc + 3) (k)) : wq_Snd p l e R s m args below meth c nL cs D cl A Ag Q pc (wq_put ci j ok k) := by
  intro L S w n1 n2 h ad ls H locs hA hl hP hD hS
  unfold wq_put at h
  rcases S with _ | ⟨v, _ | ⟨a2, S⟩⟩
  · exact h.elim
  · exact h.elim
  · rcases a2 with a2 | q2
    · cases a2 with
      | ref x =>
        cases hg : wq_n w x with
        | none => simp only [hg] at h
        | some en =>
          simp only [hg] at h
          rcases en with a | o | g
          · exact h.elim
          · cases hb : (Nat.beq o.1 ci && (ok v && Nat.blt j o.2.length)) with
            | false => simp only [hb] at h; exact h.elim
            | true =>
              simp only [hb, cond_true, wq_nf_eq] at h
              rw [Bool.and_eq_true, Bool.and_eq_true] at hb
              have hci : o.1 = ci := Nat.eq_of_beq_eq_true hb.1
              have hj : j < o.2.length := Nat.le_of_ble_eq_true hb.2.2
              have hh := hP x _ hg
              refine hf ad H locs n1 n2 pc ls _ (ad x 0) (o.2.map (wq_v ad)) v hb.2.1 (by rw [← hci]; exact hh) (by rw [List.length_map]; exact hj) hd (fun H1 i9 e1 e2 e3 => ?_)
              have hk' : ∀ i, wq_k (.inr (.inl (o.1, o.2.set j v)) : wq_E) i → wq_k (.inr (.inl o) : wq_E) i := fun i hi => hi
              refine hk _ _ _ _ _ h ad ls H1 _ hA hl (wq_P_u hP hD hg (wq_k0 _) e3 ?_) (wq_D_u hD hg hk') (hS.put e2 e3 (hD.2 x 0 ⟨_, hg, wq_k0 _⟩))
              show va_at D cl (ad x 0, .inr (o.1, (o.2.set j v).map (wq_v ad))) H1
              rw [hci, List.map_set]
              exact e1
          · exact h.elim
      | _ => exact h.elim
    · exact h.elim
def wq_up2 (f : Nat → Nat → Int32) (r j : Nat) (x : Int32) : Nat → Nat → Int32 := fun a b => if a = r then (if b = j then x else f a b) else f a b
def wq_lim (N : Nat) (q : Prop) : Prop := cond (Nat.ble N 1000000) q False
theorem wq_lim_ok {N : Nat} {q : Prop} (h : wq_lim N q) : N ≤ 1000000 ∧ q := by
  unfold wq_lim at h
  cases hb : Nat.ble N 1000000 with
  | true => rw [hb] at h; exact ⟨Nat.le_of_ble_eq_true hb, h⟩
  | false => rw [hb] at h; exact h.elim
def wq_iald (k : wq_T) : wq_T := fun L S w n1 n2 => match S with
  | .inl (.int i) :: .inl (.ref p) :: S' => match wq_n w p with
    | some (.inl (0, (N, .inl f))) => wq_lim N (∃ j : Nat, i = nI j ∧ j < N ∧ k L (.inl (.int (f j)) :: S') w n1 n2)
    | _ => False
  | .inl (.int i) :: .inr (p, r) :: S' => match wq_n w p with
    | some (.inr (.inr (N, M, f))) => wq_lim M (∃ j : Nat, i = nI j ∧ j < M ∧ r < N ∧ k L (.inl (.int (f r j)) :: S') w n1 n2)
    | _ => False
  | _ => False
def wq_zald (k : wq_T) : wq_T := fun L S w n1 n2 => match S with
  | .inl (.int i) :: .inl (.ref p) :: S' => match wq_n w p with
    | some (.inl (2, (N, .inl f))) => wq_lim N (∃ j : Nat, i = nI j ∧ j < N ∧ k L (.inl (.int (f j)) :: S') w n1 n2)
    | _ => False
  | _ => False
def wq_lald (k : wq_T) : wq_T := fun L S w n1 n2 => match S with
  | .inl (.int i) :: .inl (.ref p) :: S' => match wq_n w p with
    | some (.inl (1, (N, .inr (.inl f)))) => wq_lim N (∃ j : Nat, i = nI j ∧ j < N ∧ k L (.inl (.long (f j)) :: S') w n1 n2)
    | _ => False
  | _ => False
def wq_aald (k : wq_T) : wq_T := fun L S w n1 n2 => match S with
  | .inl (.int i) :: .inl (.ref p) :: S' => match wq_n w p with
    | some (.inr (.inr (N, _, _))) => wq_lim N (∃ j : Nat, i = nI j ∧ j < N ∧ k L (.inr (p, j) :: S') w n1 n2)
    | _ => False
  | _ => False
def wq_iast (k : wq_T) : wq_T := fun L S w n1 n2 => match S with
  | .inl (.int x) :: .inl (.int i) :: .inl (.ref p) :: S' => match wq_n w p with
    | some (.inl (0, (N, .inl f))) => wq_lim N (∃ j : Nat, i = nI j ∧ j < N ∧ wq_nf (wq_u w p (.inl (0, (N, .inl (upd f j x))))) (fun w' => k L S' w' n1 n2))
    | _ => False
  | .inl (.int x) :: .inl (.int i) :: .inr (p, r) :: S' => match wq_n w p with
    | some (.inr (.inr (N, M, f))) => wq_lim M (∃ j : Nat, i = nI j ∧ j < M ∧ r < N ∧ wq_nf (wq_u w p (.inr (.inr (N, M, wq_up2 f r j x)))) (fun w' => k L S' w' n1 n2))
    | _ => False
  | _ => False
def wq_zast (k : wq_T) : wq_T := fun L S w n1 n2 => match S with
  | .inl (.int x) :: .inl (.int i) :: .inl (.ref p) :: S' => match wq_n w p with
    | some (.inl (2, (N, .inl f))) => wq_lim N (∃ j : Nat, i = nI j ∧ j < N ∧ wq_nf (wq_u w p (.inl (2, (N, .inl (upd f j (vp_nar .boolean x)))))) (fun w' => k L S' w' n1 n2))
    | _ => False
  | _ => False
def wq_last (k : wq_T) : wq_T := fun L S w n1 n2 => match S with
  | .inl (.long x) :: .inl (.int i) :: .inl (.ref p) :: S' => match wq_n w p with
    | some (.inl (1, (N, .inr (.inl f)))) => wq_lim N (∃ j : Nat, i = nI j ∧ j < N ∧ wq_nf (wq_u w p (.inl (1, (N, .inr (.inl (vp_updL f j x)))))) (fun w' => k L S' w' n1 n2))
    | _ => False
  | _ => False
end WQS
