/-! Arrays and rows of grids: the rows that their steps are sound. -/
section WQA
variable {p : Program} {l : Launch} {e : Env} {R : Room} {s : State} {m : MethodId} {args : Array Value} {below : List Frame} {meth : Method} {c : Code} {nL : Nat} {cs : Nat → ClassId} {D : va_G} {cl : List vw_C} {A : Nat → Prop} {Ag : wq_Ad → Prop} {Q : State → Prop} {cc : ByteArray} {pc : Nat} {k k1 k2 : wq_T}
theorem wq_iald_ok (h0 : p.tables.exec = Jvm.exec ∧ c.code = cc) (hK : va_K D cl (wq_tys cs) s) (hd : decode cc pc = .ok (.iaload, 1)) (hk : wq_Snd p l e R s m args below meth c nL cs D cl A Ag Q (pc + 1) (k)) : wq_Snd p l e R s m args below meth c nL cs D cl A Ag Q pc (wq_iald k) := by
  intro L S w n1 n2 h ad ls H locs hA hl hP hD hS
  unfold wq_iald at h
  split at h
  · rename_i i p0 S'
    split at h
    · rename_i N f hg
      obtain ⟨hN, j, rfl, hj, h⟩ := wq_lim_ok h
      have hh : H[ad p0 0]? = some (vp_cell (cs 0) (N, .inl f)) := hP p0 _ hg
      refine va_iald h0.1 h0.2 hK (wq_one (D := D) (cl := cl) (q := (ad p0 0, .inl (cs 0, N, .inl f))) hh) 0 0 rfl rfl (vp_in_nI hj (by omega)) hd ?_
      rw [nI_clamp (by omega)]
      exact hk _ _ _ _ _ h ad ls H locs hA hl hP hD hS
    · exact h.elim
  · rename_i i p0 r S'
    split at h
    · rename_i N M f hg
      obtain ⟨hN, j, rfl, hj, hr, h⟩ := wq_lim_ok h
      have hh : H[ad p0 (r + 1)]? = some (vp_cell (cs 0) (M, .inl (f r))) := (hP p0 _ hg).2 r hr
      refine va_iald h0.1 h0.2 hK (wq_one (D := D) (cl := cl) (q := (ad p0 (r + 1), .inl (cs 0, M, .inl (f r)))) hh) 0 0 rfl rfl (vp_in_nI hj (by omega)) hd ?_
      rw [nI_clamp (by omega)]
      exact hk _ _ _ _ _ h ad ls H locs hA hl hP hD hS
    · exact h.elim
  · exact h.elim
theorem wq_zald_ok (h0 : p.tables.exec = Jvm.exec ∧ c.code = cc) (hK : va_K D cl (wq_tys cs) s) (hd : decode cc pc = .ok (.baload, 1)) (hk : wq_Snd p l e R s m args below meth c nL cs D cl A Ag Q (pc + 1) (k)) : wq_Snd p l e R s m args below meth c nL cs D cl A Ag Q pc (wq_zald k) := by
  intro L S w n1 n2 h ad ls H locs hA hl hP hD hS
  unfold wq_zald at h
  split at h
  · rename_i i p0 S'
    split at h
    · rename_i N f hg
      obtain ⟨hN, j, rfl, hj, h⟩ := wq_lim_ok h
      have hh : H[ad p0 0]? = some (vp_cell (cs 2) (N, .inl f)) := hP p0 _ hg
      refine va_zald h0.1 h0.2 hK (wq_one (D := D) (cl := cl) (q := (ad p0 0, .inl (cs 2, N, .inl f))) hh) 0 2 rfl rfl (vp_in_nI hj (by omega)) hd ?_
      rw [nI_clamp (by omega)]
      exact hk _ _ _ _ _ h ad ls H locs hA hl hP hD hS
    · exact h.elim
  · exact h.elim
theorem wq_lald_ok (h0 : p.tables.exec = Jvm.exec ∧ c.code = cc) (hK : va_K D cl (wq_tys cs) s) (hd : decode cc pc = .ok (.laload, 1)) (hk : wq_Snd p l e R s m args below meth c nL cs D cl A Ag Q (pc + 1) (k)) : wq_Snd p l e R s m args below meth c nL cs D cl A Ag Q pc (wq_lald k) := by
  intro L S w n1 n2 h ad ls H locs hA hl hP hD hS
  unfold wq_lald at h
  split at h
  · rename_i i p0 S'
    split at h
    · rename_i N f hg
      obtain ⟨hN, j, rfl, hj, h⟩ := wq_lim_ok h
      have hh : H[ad p0 0]? = some (vp_cell (cs 1) (N, .inr (.inl f))) := hP p0 _ hg
      refine va_lald h0.1 h0.2 hK (wq_one (D := D) (cl := cl) (q := (ad p0 0, .inl (cs 1, N, .inr (.inl f)))) hh) 0 1 rfl rfl (vp_in_nI hj (by omega)) hd ?_
      rw [nI_clamp (by omega)]
      exact hk _ _ _ _ _ h ad ls H locs hA hl hP hD hS
    · exact h.elim
  · exact h.elim
theorem wq_aald_ok (h0 : p.tables.exec = Jvm.exec ∧ c.code = cc) (hK : va_K D cl (wq_tys cs) s) (hd : decode cc pc = .ok (.aaload, 1)) (hk : wq_Snd p l e R s m args below meth c nL cs D cl A Ag Q (pc + 1) (k)) : wq_Snd p l e R s m args below meth c nL cs D cl A Ag Q pc (wq_aald k) := by
  intro L S w n1 n2 h ad ls H locs hA hl hP hD hS
  unfold wq_aald at h
  split at h
  · rename_i i p0 S'
    split at h
    · rename_i N M f hg
      obtain ⟨hN, j, rfl, hj, h⟩ := wq_lim_ok h
      have hh : H[ad p0 0]? = some (vp_cell (cs 3) (N, .inr (.inr (.inr (.inr (fun i => some (ad p0 (i + 1)))))))) := (hP p0 _ hg).1
      have hin : vp_in (nI j) N := vp_in_nI hj (by omega)
      have hcl : (nI j).toNatClampNeg = j := nI_clamp (by omega)
      refine W.aald (v := .ref (ad p0 (j + 1))) (ty := .array .int) h0.1 h0.2 hh ((hK.2 3 _ rfl).1 N (fun j => va_rf (some (ad p0 (j + 1))))) rfl (fun q => by cases q) (by show ¬ (nI j < 0 ∨ (arrV _ _ _).slots.size ≤ _); rw [arrV_size]; exact hin) (by show (arrV _ _ _).slots[_]? = _; rw [hcl, arrV_read _ _ hj]; rfl) rfl rfl hd ?_
      exact hk _ _ _ _ _ h ad ls H locs hA hl hP hD hS
    · exact h.elim
  · exact h.elim
theorem wq_iast_ok (h0 : p.tables.exec = Jvm.exec ∧ c.code = cc) (hK : va_K D cl (wq_tys cs) s) (hd : decode cc pc = .ok (.iastore, 1)) (hk : wq_Snd p l e R s m args below meth c nL cs D cl A Ag Q (pc + 1) (k)) : wq_Snd p l e R s m args below meth c nL cs D cl A Ag Q pc (wq_iast k) := by
  intro L S w n1 n2 h ad ls H locs hA hl hP hD hS
  unfold wq_iast at h
  split at h
  · rename_i x i p0 S'
    split at h
    · rename_i N f hg
      obtain ⟨hN, j, rfl, hj, h⟩ := wq_lim_ok h
      simp only [wq_nf_eq] at h
      have hh : H[ad p0 0]? = some (vp_cell (cs 0) (N, .inl f)) := hP p0 _ hg
      have hin : vp_in (nI j) N := vp_in_nI hj (by omega)
      have hcl : (nI j).toNatClampNeg = j := nI_clamp (by omega)
      refine W.iast h0.1 h0.2 hh ((hK.2 0 _ rfl).1 N (fun j => .int (f j))) (fun q => by cases q) (by show ¬ (nI j < 0 ∨ (arrV _ _ _).slots.size ≤ _); rw [arrV_size]; exact hin) rfl rfl hd fun H1 e1 z oq => ?_
      refine hk _ _ _ _ _ h ad ls H1 _ hA hl (wq_P_u hP hD hg (wq_k0 _) oq ?_) (wq_D_u hD hg (fun i hi => hi)) (hS.put z oq (hD.2 p0 0 ⟨_, hg, wq_k0 _⟩))
      show H1[ad p0 0]? = some (vp_cell _ _)
      rw [e1]
      rw [vp_cell_i, vp_cell_i, arrV_store, hcl]
      congr 2
      funext q
      by_cases hq : q = j
      · subst hq
        simp [updV, upd, vp_nar]
        try rfl
      · simp [updV, upd, hq]
    · exact h.elim
  · rename_i x i p0 r S'
    split at h
    · rename_i N M f hg
      obtain ⟨hN, j, rfl, hj, hr, h⟩ := wq_lim_ok h
      simp only [wq_nf_eq] at h
      have hh : H[ad p0 (r + 1)]? = some (vp_cell (cs 0) (M, .inl (f r))) := (hP p0 _ hg).2 r hr
      have hin : vp_in (nI j) M := vp_in_nI hj (by omega)
      have hcl : (nI j).toNatClampNeg = j := nI_clamp (by omega)
      refine W.iast h0.1 h0.2 hh ((hK.2 0 _ rfl).1 M (fun j => .int (f r j))) (fun q => by cases q) (by show ¬ (nI j < 0 ∨ (arrV _ _ _).slots.size ≤ _); rw [arrV_size]; exact hin) rfl rfl hd fun H1 e1 z oq => ?_
      have hkr : wq_k (.inr (.inr (N, M, f)) : wq_E) (r + 1) := hr
      refine hk _ _ _ _ _ h ad ls H1 _ hA hl (wq_P_u hP hD hg hkr oq ⟨?_, fun a ha => ?_⟩) (wq_D_u hD hg (fun i hi => hi)) (hS.put z oq (hD.2 p0 (r + 1) ⟨_, hg, hkr⟩))
      · rw [oq _ (fun q => absurd (hD.1 p0 0 p0 (r + 1) ⟨_, hg, wq_k0 _⟩ ⟨_, hg, hkr⟩ q).2 (by omega))]
        exact (hP p0 _ hg).1
      · by_cases har : a = r
        · subst har
          rw [e1]
          rw [vp_cell_i, vp_cell_i, arrV_store, hcl]
          congr 2
          funext q
          show _ = Value.int (wq_up2 f a j x a q)
          unfold wq_up2
          rw [if_pos rfl]
          by_cases hq : q = j
          · subst hq
            simp [updV, upd]
          · simp [updV, upd, hq]
        · rw [oq _ (fun q => har (by have := (hD.1 p0 (a + 1) p0 (r + 1) ⟨_, hg, (ha : wq_k (.inr (.inr (N, M, f)) : wq_E) (a + 1))⟩ ⟨_, hg, hkr⟩ q).2; omega))]
          show H[ad p0 (a + 1)]? = some (vp_cell (cs 0) (M, .inl (wq_up2 f r j x a)))
          rw [show wq_up2 f r j x a = f a from funext fun b => if_neg har]
          exact (hP p0 _ hg).2 a ha
    · exact h.elim
  · exact h.elim
theorem wq_zast_ok (h0 : p.tables.exec = Jvm.exec ∧ c.code = cc) (hK : va_K D cl (wq_tys cs) s) (hd : decode cc pc = .ok (.bastore, 1)) (hk : wq_Snd p l e R s m args below meth c nL cs D cl A Ag Q (pc + 1) (k)) : wq_Snd p l e R s m args below meth c nL cs D cl A Ag Q pc (wq_zast k) := by
  intro L S w n1 n2 h ad ls H locs hA hl hP hD hS
  unfold wq_zast at h
  split at h
  · rename_i x i p0 S'
    split at h
    · rename_i N f hg
      obtain ⟨hN, j, rfl, hj, h⟩ := wq_lim_ok h
      simp only [wq_nf_eq] at h
      have hh : H[ad p0 0]? = some (vp_cell (cs 2) (N, .inl f)) := hP p0 _ hg
      have hin : vp_in (nI j) N := vp_in_nI hj (by omega)
      have hcl : (nI j).toNatClampNeg = j := nI_clamp (by omega)
      refine W.zast h0.1 h0.2 hh ((hK.2 2 _ rfl).1 N (fun j => .int (f j))) (fun q => by cases q) (by show ¬ (nI j < 0 ∨ (arrV _ _ _).slots.size ≤ _); rw [arrV_size]; exact hin) rfl rfl hd fun H1 e1 z oq => ?_
      refine hk _ _ _ _ _ h ad ls H1 _ hA hl (wq_P_u hP hD hg (wq_k0 _) oq ?_) (wq_D_u hD hg (fun i hi => hi)) (hS.put z oq (hD.2 p0 0 ⟨_, hg, wq_k0 _⟩))
      show H1[ad p0 0]? = some (vp_cell _ _)
      rw [e1]
      rw [vp_cell_i, vp_cell_i, arrV_store, hcl]
      congr 2
      funext q
      by_cases hq : q = j
      · subst hq
        simp [updV, upd, vp_nar]
        try rfl
      · simp [updV, upd, hq]
    · exact h.elim
  · exact h.elim
theorem wq_last_ok (h0 : p.tables.exec = Jvm.exec ∧ c.code = cc) (hK : va_K D cl (wq_tys cs) s) (hd : decode cc pc = .ok (.lastore, 1)) (hk : wq_Snd p l e R s m args below meth c nL cs D cl A Ag Q (pc + 1) (k)) : wq_Snd p l e R s m args below meth c nL cs D cl A Ag Q pc (wq_last k) := by
  intro L S w n1 n2 h ad ls H locs hA hl hP hD hS
  unfold wq_last at h
  split at h
  · rename_i x i p0 S'
    split at h
    · rename_i N f hg
      obtain ⟨hN, j, rfl, hj, h⟩ := wq_lim_ok h
      simp only [wq_nf_eq] at h
      have hh : H[ad p0 0]? = some (vp_cell (cs 1) (N, .inr (.inl f))) := hP p0 _ hg
      have hin : vp_in (nI j) N := vp_in_nI hj (by omega)
      have hcl : (nI j).toNatClampNeg = j := nI_clamp (by omega)
      refine W.last h0.1 h0.2 hh ((hK.2 1 _ rfl).1 N (fun j => .long (f j))) (fun q => by cases q) (by show ¬ (nI j < 0 ∨ (arrV _ _ _).slots.size ≤ _); rw [arrV_size]; exact hin) rfl rfl hd fun H1 e1 z oq => ?_
      refine hk _ _ _ _ _ h ad ls H1 _ hA hl (wq_P_u hP hD hg (wq_k0 _) oq ?_) (wq_D_u hD hg (fun i hi => hi)) (hS.put z oq (hD.2 p0 0 ⟨_, hg, wq_k0 _⟩))
      show H1[ad p0 0]? = some (vp_cell _ _)
      rw [e1]
      rw [vp_cell_l, vp_cell_l, arrV_store, hcl]
      congr 2
      funext q
      by_cases hq : q = j
      · subst hq
        simp [updV, vp_updL, vp_nar]
        try rfl
      · simp [updV, vp_updL, hq]
    · exact h.elim
  · exact h.elim
end WQA
