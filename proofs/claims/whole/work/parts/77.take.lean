/-! a house told, statement by statement -/
def tkN (v : Int32) (A : Nat → Nat → Int32) : Option (Nat → Nat → Int32) := if v < A 0 0 then none else if 5 < v then none else some (u2 A 0 0 v)
def tkF (a b v : Int32) (A : Nat → Nat → Int32) : Option (Nat → Nat → Int32) := if isP (A 0 0) a b = 1 ∧ ¬ 4 < v then some (u2 A 2 (a * 5 + b).toNatClampNeg v) else none
def tkO (r v : Int32) (A : Nat → Nat → Int32) : Option (Nat → Nat → Int32) := if isR (A 0 0) r = 1 then some (u2 A 1 r.toNatClampNeg v) else none
def tkS (k p f s : Int32) (A : Nat → Nat → Int32) : Option (Nat → Nat → Int32) := if isR (A 0 0) p = 1 ∧ ¬ 7 < k ∧ ¬ A 0 1 = 5 then some (u2 (u2 (u2 (u2 (u2 A 4 (A 0 1).toNatClampNeg k) 5 (A 0 1).toNatClampNeg p) 7 (A 0 1).toNatClampNeg f) 6 (A 0 1).toNatClampNeg s) 0 1 (A 0 1 + 1)) else none
def tkE (k t l : Int32) (A : Nat → Nat → Int32) : Option (Nat → Nat → Int32) := if ¬ 4 < k ∧ ¬ t = 0 ∧ ¬ l = 0 ∧ ¬ A 0 2 = 4 then some (u2 (u2 (u2 (u2 (u2 A 8 (A 0 2).toNatClampNeg k) 9 (A 0 2).toNatClampNeg l) 10 (A 0 2).toNatClampNeg t) 11 (A 0 2).toNatClampNeg 0) 0 2 (A 0 2 + 1)) else none
def tkX (a b : Int32) (A : Nat → Nat → Int32) : Option (Nat → Nat → Int32) := if isP (A 0 0) a b = 1 then some (u2 (u2 A 3 (a * 5 + b).toNatClampNeg (1 - A 3 (a * 5 + b).toNatClampNeg)) 3 (b * 5 + a).toNatClampNeg (1 - A 3 (a * 5 + b).toNatClampNeg)) else none
def tkA (x v0 v1 v2 v3 : Int32) (A : Nat → Nat → Int32) : Option (Nat → Nat → Int32) :=
  if x = 110 then tkN v0 A else if x = 102 then tkF v0 v1 v2 A else if x = 111 then tkO v0 v1 A else if x = 115 then tkS v0 v1 v2 v3 A else if x = 101 then tkE v0 v1 v2 A else tkX v0 v1 A
def okA (n c m q : Nat) (A : Nat → Nat → Int32) : Prop := (2 ≤ n ∧ n ≤ 5 ∧ A 0 0 = nI n) ∧ (c ≤ 5 ∧ A 0 1 = nI c) ∧ (m ≤ 4 ∧ A 0 2 = nI m) ∧ okF (A 2) (A 1) ∧ okD (A 3) ∧ okK c n (A 4) (A 5) (A 6) (A 7) ∧ okN m q (A 8) (A 9) (A 10) (A 11)
def dig (N : Int) (v : Int32) : Prop := 0 ≤ v.toInt ∧ v.toInt ≤ N
theorem nI_dig {N : Nat} {v : Int32} (h : dig N v) (hN : N < 1000) : ∃ k, k ≤ N ∧ v = nI k := by
  have h0 : ¬ v < 0 := by
    rw [i_lt]
    have := h.1
    show ¬ _ < (0 : Int)
    omega
  obtain ⟨k, hk, rfl⟩ := nI_of h0
  refine ⟨k, ?_, rfl⟩
  have h1 := h.2
  rw [nI_toInt (by omega)] at h1
  omega
theorem okA.take {n c m q : Nat} {A A' : Nat → Nat → Int32} {x v0 v1 v2 v3 : Int32} (h : okA n c m q A) (d0 : dig 9 v0) (d1 : dig 99 v1) (d2 : dig 99 v2) (d3 : dig 99 v3) (e1 : x = 111 → dig 9 v1) (e2 : x = 115 → dig 9 v2) (e3 : x = 101 → dig 9 v1) (ht : tkA x v0 v1 v2 v3 A = some A') : ∃ n' c' m', n ≤ n' ∧ okA n' c' m' q A' := by
  obtain ⟨⟨hn2, hn5, hn⟩, ⟨hc5, hc⟩, ⟨hm4, hm⟩, H5, H6, H7, H8⟩ := h
  unfold tkA at ht
  by_cases x1 : x = 110
  · rw [if_pos x1] at ht
    unfold tkN at ht
    by_cases w1 : v0 < A 0 0
    · rw [if_pos w1] at ht; exact absurd ht (by simp)
    rw [if_neg w1] at ht
    by_cases w2 : 5 < v0
    · rw [if_pos w2] at ht; exact absurd ht (by simp)
    rw [if_neg w2] at ht
    cases ht
    obtain ⟨k, hk, rfl⟩ := nI_dig (N := 9) d0 (by omega)
    rw [hn, nI_ltI (by omega) (by omega)] at w1
    have w3 : ¬ nI 5 < nI k := w2
    rw [nI_ltI (by omega) (by omega)] at w3
    refine ⟨k, c, m, by omega, ⟨by omega, by omega, rfl⟩, ⟨hc5, hc⟩, ⟨hm4, hm⟩, H5, H6, ?_, H8⟩
    intro i hi
    obtain ⟨⟨p, hp, e⟩, g⟩ := H7 i hi
    exact ⟨⟨p, by omega, e⟩, g⟩
  rw [if_neg x1] at ht
  by_cases x2 : x = 102
  · rw [if_pos x2] at ht
    unfold tkF at ht
    by_cases w : isP (A 0 0) v0 v1 = 1 ∧ ¬ 4 < v2
    · rw [if_pos w] at ht
      cases ht
      obtain ⟨a, b, ha, hb, hab, rfl, rfl⟩ := isP_of (n := n) (by omega) (by rw [← hn]; exact w.1)
      rw [pr5 (by omega) (by omega), nI_clamp (show a * 5 + b < 2 ^ 31 by omega)]
      refine ⟨n, c, m, Nat.le_refl n, ⟨hn2, hn5, hn⟩, ⟨hc5, hc⟩, ⟨hm4, hm⟩, ⟨fun j hj => ?_, fun f hf => ?_, H5.2.2⟩, H6, H7, H8⟩
      · show 0 ≤ (if j = a * 5 + b then v2 else A 2 j).toInt ∧ (if j = a * 5 + b then v2 else A 2 j).toInt ≤ 4
        split
        · have w2 := w.2
          rw [i_lt] at w2
          have : (4 : Int32).toInt = 4 := rfl
          exact ⟨d2.1, by omega⟩
        · exact H5.1 j hj
      · show (if f * 5 + f = a * 5 + b then v2 else A 2 (f * 5 + f)) = 0
        rw [if_neg (by omega)]
        exact H5.2.1 f hf
    · rw [if_neg w] at ht; exact absurd ht (by simp)
  rw [if_neg x2] at ht
  by_cases x3 : x = 111
  · rw [if_pos x3] at ht
    unfold tkO at ht
    by_cases w : isR (A 0 0) v0 = 1
    · rw [if_pos w] at ht
      cases ht
      obtain ⟨a, ha, rfl⟩ := isR_of (n := n) (by omega) (by rw [← hn, w]; decide)
      rw [nI_clamp (show a < 2 ^ 31 by omega)]
      refine ⟨n, c, m, Nat.le_refl n, ⟨hn2, hn5, hn⟩, ⟨hc5, hc⟩, ⟨hm4, hm⟩, ⟨H5.1, H5.2.1, fun j hj => ?_⟩, H6, H7, H8⟩
      show 0 ≤ (if j = a then v1 else A 1 j).toInt ∧ (if j = a then v1 else A 1 j).toInt ≤ 9
      split
      · exact e1 x3
      · exact H5.2.2 j hj
    · rw [if_neg w] at ht; exact absurd ht (by simp)
  rw [if_neg x3] at ht
  by_cases x4 : x = 115
  · rw [if_pos x4] at ht
    unfold tkS at ht
    by_cases w : isR (A 0 0) v1 = 1 ∧ ¬ 7 < v0 ∧ ¬ A 0 1 = 5
    · rw [if_pos w] at ht
      cases ht
      obtain ⟨a, ha, rfl⟩ := isR_of (n := n) (r := v1) (by omega) (by rw [← hn, w.1]; decide)
      have hc5' : c < 5 := by
        have := w.2.2
        rw [hc] at this
        by_cases h : c = 5
        · subst h; exact absurd rfl this
        · omega
      rw [hc, nI_clamp (show c < 2 ^ 31 by omega)]
      refine ⟨n, c + 1, m, Nat.le_refl n, ⟨hn2, hn5, hn⟩, ⟨by omega, nI_1 c⟩, ⟨hm4, hm⟩, H5, H6, fun i hi => ⟨?_, ?_, ?_⟩, H8⟩
      · show ∃ p, p < n ∧ (if i = c then nI a else A 5 i) = nI p
        split
        · exact ⟨a, ha, rfl⟩
        · exact (H7 i (by omega)).1
      · show 0 ≤ (if i = c then v3 else A 6 i).toInt ∧ (if i = c then v3 else A 6 i).toInt ≤ 99
        split
        · exact d3
        · exact (H7 i (by omega)).2.1
      · show 0 ≤ (if i = c then v2 else A 7 i).toInt ∧ (if i = c then v2 else A 7 i).toInt ≤ 9
        split
        · exact e2 x4
        · exact (H7 i (by omega)).2.2
    · rw [if_neg w] at ht; exact absurd ht (by simp)
  rw [if_neg x4] at ht
  by_cases x5 : x = 101
  · rw [if_pos x5] at ht
    unfold tkE at ht
    by_cases w : ¬ 4 < v0 ∧ ¬ v1 = 0 ∧ ¬ v2 = 0 ∧ ¬ A 0 2 = 4
    · rw [if_pos w] at ht
      cases ht
      obtain ⟨w1, w2, w3, w4⟩ := w
      have hm4' : m < 4 := by
        rw [hm] at w4
        by_cases h : m = 4
        · subst h; exact absurd rfl w4
        · omega
      rw [hm, nI_clamp (show m < 2 ^ 31 by omega)]
      have z0 : (0 : Int32).toInt = 0 := rfl
      refine ⟨n, c, m + 1, Nat.le_refl n, ⟨hn2, hn5, hn⟩, ⟨hc5, hc⟩, ⟨by omega, nI_1 m⟩, H5, H6, H7, fun i hi => ⟨?_, ?_, ?_, ?_⟩⟩
      · show 0 ≤ (if i = m then v0 else A 8 i).toInt ∧ (if i = m then v0 else A 8 i).toInt ≤ 4
        split
        · rw [i_lt] at w1
          have : (4 : Int32).toInt = 4 := rfl
          exact ⟨d0.1, by omega⟩
        · exact (H8 i (by omega)).1
      · show 1 ≤ (if i = m then v2 else A 9 i).toInt ∧ (if i = m then v2 else A 9 i).toInt ≤ 99
        split
        · have : v2.toInt ≠ 0 := fun e => w3 (Int32.toInt_inj.mp (e.trans z0.symm))
          have := d2.1
          exact ⟨by omega, d2.2⟩
        · exact (H8 i (by omega)).2.1
      · show 1 ≤ (if i = m then v1 else A 10 i).toInt ∧ (if i = m then v1 else A 10 i).toInt ≤ 9
        split
        · have : v1.toInt ≠ 0 := fun e => w2 (Int32.toInt_inj.mp (e.trans z0.symm))
          have := e3 x5
          exact ⟨by have := this.1; omega, this.2⟩
        · exact (H8 i (by omega)).2.2.1
      · show 0 ≤ (if i = m then (0 : Int32) else A 11 i).toInt ∧ (if i = m then (0 : Int32) else A 11 i).toInt ≤ q
        split
        · rw [z0]; omega
        · exact (H8 i (by omega)).2.2.2
    · rw [if_neg w] at ht; exact absurd ht (by simp)
  rw [if_neg x5] at ht
  unfold tkX at ht
  by_cases w : isP (A 0 0) v0 v1 = 1
  · rw [if_pos w] at ht
    cases ht
    obtain ⟨a, b, ha, hb, hab, rfl, rfl⟩ := isP_of (n := n) (by omega) (by rw [← hn]; exact w)
    rw [pr5 (by omega) (by omega), nI_clamp (show a * 5 + b < 2 ^ 31 by omega), pr5 (by omega) (by omega), nI_clamp (show b * 5 + a < 2 ^ 31 by omega)]
    have hv : (1 - A 3 (a * 5 + b) : Int32) = 0 ∨ (1 - A 3 (a * 5 + b) : Int32) = 1 := by
      rcases H6.1 (a * 5 + b) (by omega) with e | e
      · rw [e]; exact Or.inr rfl
      · rw [e]; exact Or.inl rfl
    generalize (1 - A 3 (a * 5 + b) : Int32) = v at hv
    refine ⟨n, c, m, Nat.le_refl n, ⟨hn2, hn5, hn⟩, ⟨hc5, hc⟩, ⟨hm4, hm⟩, H5, ⟨fun j hj => ?_, fun y z hy hz => ?_⟩, H7, H8⟩
    · show (if j = b * 5 + a then v else if j = a * 5 + b then v else A 3 j) = 0 ∨ (if j = b * 5 + a then v else if j = a * 5 + b then v else A 3 j) = 1
      split
      · exact hv
      · split
        · exact hv
        · exact H6.1 j hj
    · show (if y * 5 + z = b * 5 + a then v else if y * 5 + z = a * 5 + b then v else A 3 (y * 5 + z)) = (if z * 5 + y = b * 5 + a then v else if z * 5 + y = a * 5 + b then v else A 3 (z * 5 + y))
      have := H6.2 y z hy hz
      repeat' split
      all_goals first | rfl | exact this | omega
  · rw [if_neg w] at ht; exact absurd ht (by simp)
