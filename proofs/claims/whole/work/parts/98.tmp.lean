theorem law_pure (L : Nat) (xs : Nat → Int32) (hL : L ≤ 320) : ∃ σ2, exD (LX L xs) 201 0 (entL 4 [.ref 4098]) [] sh0 = some (some (.int 1), σ2) ∧ σ2.1.length ≤ 97 ∧ slz σ2.1 ≤ 1572 := sorry
