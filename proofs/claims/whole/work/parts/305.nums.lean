/-! small numbers -/
theorem inB_nI {i n : Nat} (h : i < n) (hn : n < 2 ^ 31) : inB (nI i) n := by
  unfold inB
  rw [nI_clamp (by omega)]
  exact ⟨nI_pos' (by omega), h⟩
theorem isR_1 {n i : Nat} (h : i < n) (hn : n < 2 ^ 31) : isR (nI n) (nI i) = 1 := by
  unfold isR
  rw [if_neg (nI_pos (by omega)), if_neg (nI_ge h hn)]
theorem isR_of {n : Nat} {r : Int32} (hn : n < 2 ^ 31) (h : isR (nI n) r ≠ 0) : ∃ i, i < n ∧ r = nI i := by
  unfold isR at h
  split at h
  · exact absurd rfl h
  · rename_i h0
    split at h
    · exact absurd rfl h
    · rename_i h1
      obtain ⟨j, hj, rfl⟩ := nI_of h0
      rw [nI_leI hn hj] at h1
      exact ⟨j, by omega, rfl⟩
theorem isR_01 (n r : Int32) : isR n r = 0 ∨ isR n r = 1 := by
  unfold isR
  split
  · exact Or.inl rfl
  · split
    · exact Or.inl rfl
    · exact Or.inr rfl
theorem isR_1of {n r : Int32} (h : ¬ isR n r = 0) : isR n r = 1 := (isR_01 n r).resolve_left h
