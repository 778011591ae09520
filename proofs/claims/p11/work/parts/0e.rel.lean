section SG
variable {w w' : wq_W} {i v : Int32}
theorem sf_uu {f : Nat → Int32} {j x : Nat} {v : Int32} : upd f j v x = if x = j then v else f x := rfl
theorem sf_R_fl (hI : sf_I w) (hm : sf_m [41] w w') (hu : sf_a w' 41 = upd (sf_a w 41) i.toInt.toNat v) (h1 : v.toInt + (sf_a w 38 i.toInt.toNat).toInt ≤ 40) (h2 : (sf_a w 40 i.toInt.toNat).toInt ≠ 0) : sf_R w' := by
  obtain ⟨hA, hB, hC⟩ := hI.2
  unfold sf_R
  rw [sf_ma hm (p := 38) rfl, sf_ma hm (p := 40) rfl, sf_ma hm (p := 72) rfl, sf_ma hm (p := 73) rfl, sf_ma hm (p := 110) rfl, sf_ma hm (p := 104) rfl, sf_mf hm (p := 71) (j := 1) rfl, hu]
  refine ⟨hA, fun d hd => ?_, hC⟩
  rw [sf_uu]
  split
  · rename_i hdi
    rw [hdi]
    exact ⟨h1, fun h => absurd h h2⟩
  · exact hB d hd
theorem sf_R_ln (hI : sf_I w) (hm : sf_m [38] w w') (hu : sf_a w' 38 = upd (sf_a w 38) i.toInt.toNat v) (h1 : (sf_a w 41 i.toInt.toNat).toInt + v.toInt ≤ 40) : sf_R w' := by
  obtain ⟨hA, hB, hC⟩ := hI.2
  unfold sf_R
  rw [sf_ma hm (p := 41) rfl, sf_ma hm (p := 40) rfl, sf_ma hm (p := 72) rfl, sf_ma hm (p := 73) rfl, sf_ma hm (p := 110) rfl, sf_ma hm (p := 104) rfl, sf_mf hm (p := 71) (j := 1) rfl, hu]
  refine ⟨hA, fun d hd => ⟨?_, (hB d hd).2⟩, hC⟩
  rw [sf_uu]
  split
  · rename_i hdi
    rw [hdi]
    exact h1
  · exact (hB d hd).1
theorem sf_R_ac (hI : sf_I w) (hm : sf_m [40] w w') (hu : sf_a w' 40 = upd (sf_a w 40) i.toInt.toNat v) (h1 : v.toInt ≠ 0) : sf_R w' := by
  obtain ⟨hA, hB, hC⟩ := hI.2
  unfold sf_R
  rw [sf_ma hm (p := 41) rfl, sf_ma hm (p := 38) rfl, sf_ma hm (p := 72) rfl, sf_ma hm (p := 73) rfl, sf_ma hm (p := 110) rfl, sf_ma hm (p := 104) rfl, sf_mf hm (p := 71) (j := 1) rfl, hu]
  refine ⟨hA, fun d hd => ⟨(hB d hd).1, ?_⟩, hC⟩
  rw [sf_uu]
  split
  · exact fun h => absurd h h1
  · exact (hB d hd).2
theorem sf_R_pa (hI : sf_I w) (hm : sf_m [72] w w') (hu : sf_a w' 72 = upd (sf_a w 72) i.toInt.toNat v) (h0 : 0 ≤ i.toInt) (h1 : v.toInt < i.toInt) : sf_R w' := by
  obtain ⟨⟨hA, hA2, hA3⟩, hB, hC⟩ := hI.2
  unfold sf_R
  rw [sf_ma hm (p := 41) rfl, sf_ma hm (p := 38) rfl, sf_ma hm (p := 40) rfl, sf_ma hm (p := 73) rfl, sf_ma hm (p := 110) rfl, sf_ma hm (p := 104) rfl, sf_mf hm (p := 71) (j := 1) rfl, hu]
  refine ⟨⟨fun h hh hn => ?_, fun hh => ?_, ?_⟩, hB, hC⟩
  · rw [sf_uu]
    split
    · omega
    · exact hA h hh hn
  · rw [sf_uu]
    split
    · omega
    · exact hA2 hh
  · rcases hA3 with h | h
    · exact Or.inl h
    · refine Or.inr ?_
      rw [sf_uu]
      split
      · omega
      · exact h
theorem sf_R_rk (hI : sf_I w) (hm : sf_m [73] w w') (hu : sf_a w' 73 = upd (sf_a w 73) i.toInt.toNat v) (h1 : 0 ≤ v.toInt ∨ (sf_a w 72 0).toInt < 0) : sf_R w' := by
  obtain ⟨⟨hA, hA2, hA3⟩, hB, hC⟩ := hI.2
  unfold sf_R
  rw [sf_ma hm (p := 41) rfl, sf_ma hm (p := 38) rfl, sf_ma hm (p := 40) rfl, sf_ma hm (p := 72) rfl, sf_ma hm (p := 110) rfl, sf_ma hm (p := 104) rfl, sf_mf hm (p := 71) (j := 1) rfl, hu]
  refine ⟨⟨hA, hA2, ?_⟩, hB, hC⟩
  rw [sf_uu]
  split
  · exact h1
  · exact hA3
theorem sf_R_hd (hI : sf_I w) (hm : sf_m [71, 8101] w w') (h1 : (sf_a w 72 0).toInt < 0) : sf_R w' := by
  obtain ⟨⟨hA, hA2, hA3⟩, hB, hC⟩ := hI.2
  unfold sf_R
  rw [sf_ma hm (p := 41) rfl, sf_ma hm (p := 38) rfl, sf_ma hm (p := 40) rfl, sf_ma hm (p := 72) rfl, sf_ma hm (p := 73) rfl, sf_ma hm (p := 110) rfl, sf_ma hm (p := 104) rfl]
  exact ⟨⟨hA, fun _ => h1, Or.inr h1⟩, hB, hC⟩
theorem sf_R_fi (hI : sf_I w) (hm : sf_m [110] w w') (hu : sf_a w' 110 = upd (sf_a w 110) i.toInt.toNat v) (h0 : 0 ≤ i.toInt) (h1 : i.toInt % 3 ≠ 0 ∨ 1 ≤ v.toInt) : sf_R w' := by
  obtain ⟨hA, hB, hC⟩ := hI.2
  unfold sf_R
  rw [sf_ma hm (p := 41) rfl, sf_ma hm (p := 38) rfl, sf_ma hm (p := 40) rfl, sf_ma hm (p := 72) rfl, sf_ma hm (p := 73) rfl, sf_ma hm (p := 104) rfl, sf_mf hm (p := 71) (j := 1) rfl, hu]
  refine ⟨hA, hB, fun d k hd hk => ?_⟩
  rw [sf_uu]
  split
  · omega
  · exact hC d k hd hk
theorem sf_R_lc (hI : sf_I w) (hm : sf_m [104] w w') (hu : sf_a w' 104 = upd (sf_a w 104) i.toInt.toNat v) (h0 : 0 ≤ i.toInt) (h1 : ∀ k : Nat, (k : Int) < v.toInt → (k : Int) < (sf_a w 104 i.toInt.toNat).toInt ∨ 1 ≤ (sf_a w 110 (12 * i.toInt.toNat + 3 * k)).toInt) : sf_R w' := by
  obtain ⟨hA, hB, hC⟩ := hI.2
  unfold sf_R
  rw [sf_ma hm (p := 41) rfl, sf_ma hm (p := 38) rfl, sf_ma hm (p := 40) rfl, sf_ma hm (p := 72) rfl, sf_ma hm (p := 73) rfl, sf_ma hm (p := 110) rfl, sf_mf hm (p := 71) (j := 1) rfl, hu]
  refine ⟨hA, hB, fun d k hd hk => ?_⟩
  rw [sf_uu] at hk
  split at hk
  · rename_i hdi
    rcases h1 k hk with h | h
    · exact hC d k hd (by rw [hdi]; exact h)
    · rw [hdi]
      exact h
  · exact hC d k hd hk
end SG
