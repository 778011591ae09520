/-! From the law's entry to its end, out of kl_vc. -/
theorem kl_fw : ∀ w ∈ wq_fw, w ∈ tables_1 := by decide +kernel
theorem kl_nw : ∀ q ∈ wq_nw, Cond.methodLinkNest q.1 q.2.1 q.2.2.1 q.2.2.2 ∈ tables_1 := by decide +kernel
set_option maxRecDepth 100000 in
set_option maxHeartbeats 4000000 in
theorem kl_start (vc : ∀ (N : Nat) (xs : Nat → Int32), N ≤ 4096 → kt_W_law_0 N xs (ku_W_law N xs 5000) [(0, .inl (.ref 100000))] [] [] 0 0) {p : Program} {e : Env} {s : State} {m : MethodId} {below : List Frame} {meth : Method} {c : Code} (l : Launch) (hl : l.stackTraces = false) {b L : Nat} {xs : Nat → Int32} (hL : L ≤ 4096) (C0 : lw_At p s m meth c b L xs) : W p l e room_1 s m #[Value.ref b] below meth c s.heap [] 0 0 (lw_Z below #[Value.ref b] s) (entryFrame m ([Value.ref b] : List Value).toArray 8) := by
  obtain ⟨hx, hb, hr, hml, hown, hts0, hX, hbl, hlk, hgv⟩ := C0
  have hts : ∀ w ∈ kw_T, w.before #[Value.ref b] s = true := fun w h => hts0 w (List.mem_filter.mp h).1
  have htb : ∀ w ∈ tables_1, w.before #[Value.ref b] s = true := fun w h => hts0 w (List.mem_append_right _ h)
  have hs := flat_of_before _ hgv
  obtain ⟨c0, i0, k0⟩ := u_known hts ki_B (hts _ kw_22)
  obtain ⟨c1, i1, k1⟩ := u_known hts ki_T (hts _ kw_30)
  obtain ⟨c2, i2, k2⟩ := u_known hts ki_R (hts _ kw_88)
  obtain ⟨c3, i3, k3⟩ := u_known hts ki_Q (hts _ kw_123)
  obtain ⟨c4, i4, k4⟩ := u_known hts ki_O (hts _ kw_158)
  obtain ⟨c5, i5, k5⟩ := u_known hts ki_D (hts _ kw_189)
  obtain ⟨c6, i6, k6⟩ := u_known hts ki_A (hts _ kw_267)
  obtain ⟨c7, i7, k7⟩ := u_known hts ki_L (hts _ kw_312)
  obtain ⟨c8, i8, k8⟩ := u_known hts ki_G (hts _ kw_346)
  obtain ⟨c9, i9, k9⟩ := u_known hts ki_M (hts _ kw_977)
  obtain ⟨d0, e0, f0, a01, a02, a03⟩ := Cond.arrayClass_spec (hts _ kw_85)
  obtain ⟨d1, e1, f1, a11, a12, a13⟩ := Cond.arrayClass_spec (hts _ kw_265)
  obtain ⟨d2, e2, f2, a21, a22, a23⟩ := Cond.arrayClass_spec (hts _ kw_86)
  have hao : (Cond.arrayOver (.array .int)).before #[Value.ref b] s = true := htb _ (List.mem_of_getElem? (i := 36) (by decide +kernel))
  obtain ⟨f3, d3, e3, a30, a32, a33, a31⟩ := Cond.arrayOver_specA hao
  obtain ⟨cs, hcs⟩ : ∃ cs : Nat → ClassId, cs = fun k => match k with | 0 => d0 | 1 => d1 | 2 => d2 | _ => d3 := ⟨_, rfl⟩
  obtain ⟨D, hD⟩ : ∃ D : va_G, D = ((fun k => match k with | 0 => c0 | 1 => c1 | 2 => c2 | 3 => c3 | 4 => c4 | 5 => c5 | 6 => c6 | 7 => c7 | 8 => c8 | _ => c9), (fun k => match k with | 0 => i0 | 1 => i1 | 2 => i2 | 3 => i3 | 4 => i4 | 5 => i5 | 6 => i6 | 7 => i7 | 8 => i8 | _ => i9)) := ⟨_, rfl⟩
  have hK : va_K D kz_cl (wq_tys cs) s := by
    subst hD; subst hcs
    refine ⟨fun c q hq => ?_, fun k q hk => ?_⟩
    · have hc : c < 10 := (List.getElem?_eq_some_iff.mp hq).1
      rcases (show c = 0 ∨ c = 1 ∨ c = 2 ∨ c = 3 ∨ c = 4 ∨ c = 5 ∨ c = 6 ∨ c = 7 ∨ c = 8 ∨ c = 9 by omega) with rfl | rfl | rfl | rfl | rfl | rfl | rfl | rfl | rfl | rfl
      · cases hq; exact k0
      · cases hq; exact k1
      · cases hq; exact k2
      · cases hq; exact k3
      · cases hq; exact k4
      · cases hq; exact k5
      · cases hq; exact k6
      · cases hq; exact k7
      · cases hq; exact k8
      · cases hq; exact k9
    · have hc : k < 4 := (List.getElem?_eq_some_iff.mp hk).1
      rcases (show k = 0 ∨ k = 1 ∨ k = 2 ∨ k = 3 by omega) with rfl | rfl | rfl | rfl
      · cases hk; exact ⟨fun n z => ⟨fun q hq => (by cases hq), e0, a02, f0, a03⟩, a01⟩
      · cases hk; exact ⟨fun n z => ⟨fun q hq => (by cases hq), e1, a12, f1, a13⟩, a11⟩
      · cases hk; exact ⟨fun n z => ⟨fun q hq => (by cases hq), e2, a22, f2, a23⟩, a21⟩
      · cases hk; exact ⟨fun n z => ⟨fun q hq => (by cases hq), e3, a32, f3, a33⟩, a31⟩
  have hN : wq_N s := by
    refine ⟨fun E E' h1 h2 h3 => ?_, fun w hw => va_any (wq_fw_tab w hw) (htb w (kl_fw w hw)), fun q hq => va_any rfl (htb _ (kl_nw q hq)), hao⟩
    rcases (show E = 0 ∨ E = 1 ∨ E = 2 ∨ E = 3 by omega) with rfl | rfl | rfl | rfl <;> rcases (show E' = 0 ∨ E' = 1 ∨ E' = 2 ∨ E' = 3 by omega) with rfl | rfl | rfl | rfl <;> first | exact absurd rfl h3 | exact va_Nc.of (hs _ (by decide +kernel))
  obtain ⟨A, hAe⟩ : ∃ A : Nat → Prop, A = fun q => s.heap.size ≤ q := ⟨_, rfl⟩
  have hA9 : ∀ q, A q → s.heap.size ≤ q := fun q h => by rw [hAe] at h; exact h
  have hA : ∀ q, s.heap.size ≤ q → A q := fun q h => by rw [hAe]; exact h
  have hZ : wq_Z A s s.heap := ⟨wq_Sx_of (htb _ (List.mem_of_getElem? (i := 441) (by decide +kernel))) (hs _ (by decide +kernel)) (fun a ha h => absurd (hA9 a h) (by omega)), wq_Sx_of (htb _ (List.mem_of_getElem? (i := 443) (by decide +kernel))) (hs _ (by decide +kernel)) (fun a ha h => absurd (hA9 a h) (by omega))⟩
  have hAg : wq_AgOK (fun ad : wq_Ad => ad 100000 0 = b) 0 := fun N ad ad' _ h1 h2 => (h2 100000 0 (Or.inr (Nat.le_refl _))).trans h1
  have hk := fun K hKc => kl_ok (below := below) (e := e) hl ⟨hx, hb⟩ hr hlk hml hown hts hK hZ hN hA hA9 hAg hX (by omega) hbl (fun h => absurd (hA9 b h) (by omega)) (fun ad h => h) K hKc
  have hun : ∀ (n pc : Nat), pc ∈ [23] → wq_Snd p l e room_1 s m #[Value.ref b] below meth c 8 cs D kz_cl A (fun ad : wq_Ad => ad 100000 0 = b) (lw_Z below #[Value.ref b] s) pc (ku_W_law L xs n pc) := by
    intro n
    induction n with
    | zero => intro pc _ L S w9 n1 n2 h; exact h.elim
    | succ n ih => intro pc hpc; rw [List.mem_singleton.mp hpc]; exact (hk (ku_W_law L xs n) ih).1
  rw [lg_entry_eq]
  refine (hk (ku_W_law L xs 5000) (hun 5000)).2 _ _ _ _ _ (vc L xs hL) (fun p _ => if p = 100000 then b else 0) _ s.heap [] (if_pos rfl) ?_ (fun p e h => by cases h) ⟨fun p i p' i' h => (by obtain ⟨z, hz, -⟩ := h; cases hz), fun p i h => (by obtain ⟨z, hz, -⟩ := h; cases hz)⟩ va_S.rf
  exact lv_entry [.ref b] (Nat.le_of_ble_eq_true rfl)
