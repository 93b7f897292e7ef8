/-! what holds between the calls: the class's house and the reference's (printed by wip/whole/gen10.py) -/
def ZI (I : Nat → Nat → Int32) : Prop := ∀ b n, KD[b]? = some (1, n) → ∀ j, n ≤ j → I b j = 0
def okD (SR : Nat → Int32) : Prop := (∀ j, j < 25 → SR j = 0 ∨ SR j = 1) ∧ ∀ a b, a < 5 → b < 5 → SR (a * 5 + b) = SR (b * 5 + a)
def okN (m q : Nat) (NK LN TI TD : Nat → Int32) : Prop := ∀ i, i < m → (0 ≤ (NK i).toInt ∧ (NK i).toInt ≤ 4) ∧ (1 ≤ (LN i).toInt ∧ (LN i).toInt ≤ 99) ∧ (1 ≤ (TI i).toInt ∧ (TI i).toInt ≤ 9) ∧ 0 ≤ (TD i).toInt ∧ (TD i).toInt ≤ (q : Int)
def okT (m w d s a : Int32) : Prop := (0 ≤ m.toInt ∧ m.toInt ≤ 9999) ∧ (0 ≤ w.toInt ∧ w.toInt ≤ 3) ∧ (1 ≤ d.toInt ∧ d.toInt ≤ 999) ∧ (0 ≤ s.toInt ∧ s.toInt ≤ 50) ∧ (a = 0 ∨ a = 1)
/-- a house, n rooms, c sources, m noses, as its rows say -/
def okH (n c m q : Nat) (nr cr mr : Int32) (ST O FL SR K P S F NK LN TI TD : Nat → Int32) (mi wi da sl sa : Int32) : Prop :=
  (2 ≤ n ∧ n ≤ 5 ∧ nr = nI n) ∧ (c ≤ 5 ∧ cr = nI c) ∧ (m ≤ 4 ∧ mr = nI m) ∧ okS n ST ∧ okF FL O ∧ okD SR ∧ okK c n K P S F ∧ okN m q NK LN TI TD ∧ okT mi wi da sl sa
theorem okN.mono {m q q2 : Nat} {NK LN TI TD : Nat → Int32} (h : okN m q NK LN TI TD) (hq : q ≤ q2) : okN m q2 NK LN TI TD := fun i hi => ⟨(h i hi).1, (h i hi).2.1, (h i hi).2.2.1, (h i hi).2.2.2.1, by have := (h i hi).2.2.2.2; omega⟩
theorem okH.mono {n c m q q2 : Nat} {nr cr mr : Int32} {ST O FL SR K P S F NK LN TI TD : Nat → Int32} {mi wi da sl sa : Int32} (h : okH n c m q nr cr mr ST O FL SR K P S F NK LN TI TD mi wi da sl sa) (hq : q ≤ q2) : okH n c m q2 nr cr mr ST O FL SR K P S F NK LN TI TD mi wi da sl sa :=
  ⟨h.1, h.2.1, h.2.2.1, h.2.2.2.1, h.2.2.2.2.1, h.2.2.2.2.2.1, h.2.2.2.2.2.2.1, h.2.2.2.2.2.2.2.1.mono hq, h.2.2.2.2.2.2.2.2⟩
def H1 (n c m q : Nat) (I : Nat → Nat → Int32) : Prop := okH n c m q (I 1 0) (I 7 0) (I 12 0) (I 2) (I 3) (I 4) (I 5) (I 8) (I 9) (I 10) (I 11) (I 13) (I 14) (I 15) (I 16) (I 1 1) (I 6 0) (I 6 1) (I 6 2) (I 1 2)
def H17 (n c m q : Nat) (I : Nat → Nat → Int32) : Prop := okH n c m q (I 17 0) (I 23 0) (I 28 0) (I 18) (I 19) (I 20) (I 21) (I 24) (I 25) (I 26) (I 27) (I 29) (I 30) (I 31) (I 32) (I 17 1) (I 22 0) (I 22 1) (I 22 2) (I 17 2)
def H33 (n c m q : Nat) (I : Nat → Nat → Int32) : Prop := okH n c m q (I 33 0) (I 39 0) (I 44 0) (I 34) (I 35) (I 36) (I 37) (I 40) (I 41) (I 42) (I 43) (I 45) (I 46) (I 47) (I 48) (I 33 1) (I 38 0) (I 38 1) (I 38 2) (I 33 2)
def EQh (I : Nat → Nat → Int32) : Prop := I 2 = I 73 ∧ I 3 = I 74 ∧ I 4 = I 75 ∧ I 5 = I 76 ∧ I 8 = I 77 ∧ I 9 = I 78 ∧ I 10 = I 79 ∧ I 11 = I 80 ∧ I 13 = I 81 ∧ I 14 = I 82 ∧ I 15 = I 83 ∧ I 16 = I 84 ∧ I 1 0 = I 71 13 ∧ I 7 0 = I 71 14 ∧ I 12 0 = I 71 15 ∧ I 1 1 = I 71 16 ∧ I 6 0 = I 71 17 ∧ I 6 1 = I 71 18 ∧ I 6 2 = I 71 19 ∧ I 1 2 = I 71 20
def KQ (I : Nat → Nat → Int32) : Prop := (∀ j, j < 5 → I 18 j = I 89 (0 + j)) ∧ (∀ j, j < 5 → I 19 j = I 89 (5 + j)) ∧ (∀ j, j < 25 → I 20 j = I 89 (10 + j)) ∧ (∀ j, j < 25 → I 21 j = I 89 (35 + j)) ∧ (∀ j, j < 5 → I 24 j = I 89 (60 + j)) ∧ (∀ j, j < 5 → I 25 j = I 89 (65 + j)) ∧ (∀ j, j < 5 → I 26 j = I 89 (70 + j)) ∧ (∀ j, j < 5 → I 27 j = I 89 (75 + j)) ∧ (∀ j, j < 4 → I 29 j = I 89 (80 + j)) ∧ (∀ j, j < 4 → I 30 j = I 89 (84 + j)) ∧ (∀ j, j < 4 → I 31 j = I 89 (88 + j)) ∧ (∀ j, j < 4 → I 32 j = I 89 (92 + j)) ∧ I 17 0 = I 89 96 ∧ I 23 0 = I 89 97 ∧ I 28 0 = I 89 98 ∧ I 17 1 = I 89 99 ∧ I 22 0 = I 89 100 ∧ I 22 1 = I 89 101 ∧ I 22 2 = I 89 102 ∧ I 17 2 = I 89 103
def EQk (q : Nat) (I : Nat → Nat → Int32) : Prop := I 0 3 = I 71 29 ∧ (I 0 3 = 0 ∨ (I 0 3 = 1 ∧ (∃ n c m, H17 n c m q I) ∧ KQ I))
def EQo (I : Nat → Nat → Int32) : Prop := (∃ k, k ≤ 72 ∧ I 49 1 = nI k ∧ I 71 25 = nI k) ∧ I 50 = I 85 ∧ (∃ k, k ≤ 8 ∧ I 51 1 = nI k ∧ I 71 37 = nI k ∧ ∀ j, j < k → I 52 j = 9 ∨ ∃ p, p < 5 ∧ I 52 j = nI p) ∧ I 52 = I 93 ∧ I 70 = I 72
def Inv (q : Nat) (I : Nat → Nat → Int32) : Prop := ZI I ∧ (∃ n c m, H1 n c m q I) ∧ EQh I ∧ EQk q I ∧ EQo I
theorem zi_of {I : Nat → Nat → Int32} {L : Nat → Nat → Int64} (h : ZI I) : ZH (ms I L) := h
theorem of_zi {I : Nat → Nat → Int32} {L : Nat → Nat → Int64} (h : ZH (ms I L)) : ZI I := h
theorem row_eq {I : Nat → Nat → Int32} (h : ZI I) {a b n : Nat} (ha : KD[a]? = some (1, n)) (hb : KD[b]? = some (1, n)) (he : ∀ j, j < n → I a j = I b j) : I a = I b := by
  funext j
  by_cases hj : j < n
  · exact he j hj
  · rw [h a n ha j (by omega), h b n hb j (by omega)]
/-- what a call in mind leaves: all that counts is as it was -/
def Same (I J : Nat → Nat → Int32) : Prop := (∀ b, b ≤ 32 → J b = I b) ∧ (∀ b, 49 ≤ b → b ≤ 52 → J b = I b) ∧ J 70 = I 70 ∧ (∀ b, 72 ≤ b → b ≤ 85 → J b = I b) ∧ J 93 = I 93 ∧ (∀ j, j < 104 → J 89 j = I 89 j) ∧ ∀ j, j < 38 → j ≠ 26 → j ≠ 27 → j ≠ 30 → j ≠ 31 → J 71 j = I 71 j
theorem Inv.same {q q2 : Nat} {I J : Nat → Nat → Int32} (h : Inv q I) (hq : q ≤ q2) (hz : ZI J) (s : Same I J) : Inv q2 J := by
  obtain ⟨-, ⟨n, c, m, hH⟩, hE, hK, hO⟩ := h
  obtain ⟨s1, s2, s3, s4, s5, s6, s7⟩ := s
  have e0 := s1 0 (by decide)
  have e1 := s1 1 (by decide)
  have e2 := s1 2 (by decide)
  have e3 := s1 3 (by decide)
  have e4 := s1 4 (by decide)
  have e5 := s1 5 (by decide)
  have e6 := s1 6 (by decide)
  have e7 := s1 7 (by decide)
  have e8 := s1 8 (by decide)
  have e9 := s1 9 (by decide)
  have e10 := s1 10 (by decide)
  have e11 := s1 11 (by decide)
  have e12 := s1 12 (by decide)
  have e13 := s1 13 (by decide)
  have e14 := s1 14 (by decide)
  have e15 := s1 15 (by decide)
  have e16 := s1 16 (by decide)
  have e17 := s1 17 (by decide)
  have e18 := s1 18 (by decide)
  have e19 := s1 19 (by decide)
  have e20 := s1 20 (by decide)
  have e21 := s1 21 (by decide)
  have e22 := s1 22 (by decide)
  have e23 := s1 23 (by decide)
  have e24 := s1 24 (by decide)
  have e25 := s1 25 (by decide)
  have e26 := s1 26 (by decide)
  have e27 := s1 27 (by decide)
  have e28 := s1 28 (by decide)
  have e29 := s1 29 (by decide)
  have e30 := s1 30 (by decide)
  have e31 := s1 31 (by decide)
  have e32 := s1 32 (by decide)
  have e49 := s2 49 (by decide) (by decide)
  have e50 := s2 50 (by decide) (by decide)
  have e51 := s2 51 (by decide) (by decide)
  have e52 := s2 52 (by decide) (by decide)
  have e72 := s4 72 (by decide) (by decide)
  have e73 := s4 73 (by decide) (by decide)
  have e74 := s4 74 (by decide) (by decide)
  have e75 := s4 75 (by decide) (by decide)
  have e76 := s4 76 (by decide) (by decide)
  have e77 := s4 77 (by decide) (by decide)
  have e78 := s4 78 (by decide) (by decide)
  have e79 := s4 79 (by decide) (by decide)
  have e80 := s4 80 (by decide) (by decide)
  have e81 := s4 81 (by decide) (by decide)
  have e82 := s4 82 (by decide) (by decide)
  have e83 := s4 83 (by decide) (by decide)
  have e84 := s4 84 (by decide) (by decide)
  have e85 := s4 85 (by decide) (by decide)
  have f13 := s7 13 (by decide) (by decide) (by decide) (by decide) (by decide)
  have f14 := s7 14 (by decide) (by decide) (by decide) (by decide) (by decide)
  have f15 := s7 15 (by decide) (by decide) (by decide) (by decide) (by decide)
  have f16 := s7 16 (by decide) (by decide) (by decide) (by decide) (by decide)
  have f17 := s7 17 (by decide) (by decide) (by decide) (by decide) (by decide)
  have f18 := s7 18 (by decide) (by decide) (by decide) (by decide) (by decide)
  have f19 := s7 19 (by decide) (by decide) (by decide) (by decide) (by decide)
  have f20 := s7 20 (by decide) (by decide) (by decide) (by decide) (by decide)
  have f25 := s7 25 (by decide) (by decide) (by decide) (by decide) (by decide)
  have f29 := s7 29 (by decide) (by decide) (by decide) (by decide) (by decide)
  have f37 := s7 37 (by decide) (by decide) (by decide) (by decide) (by decide)
  have k0 : ∀ j, j < 5 → J 89 (0 + j) = I 89 (0 + j) := fun j hj => s6 _ (by omega)
  have k5 : ∀ j, j < 5 → J 89 (5 + j) = I 89 (5 + j) := fun j hj => s6 _ (by omega)
  have k10 : ∀ j, j < 25 → J 89 (10 + j) = I 89 (10 + j) := fun j hj => s6 _ (by omega)
  have k35 : ∀ j, j < 25 → J 89 (35 + j) = I 89 (35 + j) := fun j hj => s6 _ (by omega)
  have k60 : ∀ j, j < 5 → J 89 (60 + j) = I 89 (60 + j) := fun j hj => s6 _ (by omega)
  have k65 : ∀ j, j < 5 → J 89 (65 + j) = I 89 (65 + j) := fun j hj => s6 _ (by omega)
  have k70 : ∀ j, j < 5 → J 89 (70 + j) = I 89 (70 + j) := fun j hj => s6 _ (by omega)
  have k75 : ∀ j, j < 5 → J 89 (75 + j) = I 89 (75 + j) := fun j hj => s6 _ (by omega)
  have k80 : ∀ j, j < 4 → J 89 (80 + j) = I 89 (80 + j) := fun j hj => s6 _ (by omega)
  have k84 : ∀ j, j < 4 → J 89 (84 + j) = I 89 (84 + j) := fun j hj => s6 _ (by omega)
  have k88 : ∀ j, j < 4 → J 89 (88 + j) = I 89 (88 + j) := fun j hj => s6 _ (by omega)
  have k92 : ∀ j, j < 4 → J 89 (92 + j) = I 89 (92 + j) := fun j hj => s6 _ (by omega)
  have k96 := s6 96 (by decide)
  have k97 := s6 97 (by decide)
  have k98 := s6 98 (by decide)
  have k99 := s6 99 (by decide)
  have k100 := s6 100 (by decide)
  have k101 := s6 101 (by decide)
  have k102 := s6 102 (by decide)
  have k103 := s6 103 (by decide)
  refine ⟨hz, ⟨n, c, m, ?_⟩, ?_, ?_, ?_⟩
  · unfold H1
    rw [e1, e7, e12, e2, e3, e4, e5, e8, e9, e10, e11, e13, e14, e15, e16, e6]
    exact okH.mono hH hq
  · unfold EQh
    rw [e1, e2, e3, e4, e5, e8, e9, e10, e11, e13, e14, e15, e16, e73, e74, e75, e76, e77, e78, e79, e80, e81, e82, e83, e84, e6, e7, e12, f13, f14, f15, f16, f17, f18, f19, f20]
    exact hE
  · unfold EQk
    rw [e0, f29]
    refine ⟨hK.1, ?_⟩
    rcases hK.2 with g | ⟨g1, ⟨n2, c2, m2, g2⟩, g3⟩
    · exact Or.inl g
    · refine Or.inr ⟨g1, ⟨n2, c2, m2, ?_⟩, ?_⟩
      · unfold H17
        rw [e17, e23, e28, e18, e19, e20, e21, e24, e25, e26, e27, e29, e30, e31, e32, e22]
        exact okH.mono g2 hq
      · unfold KQ at g3 ⊢
        rw [e18, e19, e20, e21, e24, e25, e26, e27, e29, e30, e31, e32, e17, e23, e28, e22, k96, k97, k98, k99, k100, k101, k102, k103]
        obtain ⟨g10, g11, g12, g13, g14, g15, g16, g17, g18, g19, g20, g21, g22, g23, g24, g25, g26, g27, g28, g29⟩ := g3
        exact ⟨fun j hj => (g10 j hj).trans (k0 j hj).symm, fun j hj => (g11 j hj).trans (k5 j hj).symm, fun j hj => (g12 j hj).trans (k10 j hj).symm, fun j hj => (g13 j hj).trans (k35 j hj).symm, fun j hj => (g14 j hj).trans (k60 j hj).symm, fun j hj => (g15 j hj).trans (k65 j hj).symm, fun j hj => (g16 j hj).trans (k70 j hj).symm, fun j hj => (g17 j hj).trans (k75 j hj).symm, fun j hj => (g18 j hj).trans (k80 j hj).symm, fun j hj => (g19 j hj).trans (k84 j hj).symm, fun j hj => (g20 j hj).trans (k88 j hj).symm, fun j hj => (g21 j hj).trans (k92 j hj).symm, g22, g23, g24, g25, g26, g27, g28, g29⟩
  · unfold EQo
    rw [e49, e50, e51, e52, e85, s3, e72, s5, f25, f37]
    exact hO
/-- a refusal on both sides -/
theorem Inv.refuse {q : Nat} {I : Nat → Nat → Int32} {r : Int32} (h : Inv q I) (hr : isRf r) : Inv (q + 1) (rfM (rfC I r) r) := by
  have hz : ZI (rfM (rfC I r) r) := by
    have hp : (-r).toNatClampNeg < 7 := by rcases hr with rfl | rfl | rfl | rfl | rfl <;> decide
    intro b n hb j hj
    unfold rfM rfC
    simp only [u2_row]
    by_cases h72 : b = 72
    · subst h72
      cases hb
      simp only [reduceIte, Nat.reduceEqDiff]
      rw [if_neg (by omega)]
      exact h.1 72 7 rfl j hj
    · rw [if_neg h72]
      by_cases h70 : b = 70
      · subst h70
        cases hb
        simp only [reduceIte]
        rw [if_neg (by omega)]
        exact h.1 70 7 rfl j hj
      · rw [if_neg h70]
        exact h.1 b n hb j hj
  obtain ⟨h1, ⟨n, c, m, hH⟩, hE, hK, hO⟩ := h
  refine ⟨hz, ⟨n, c, m, okH.mono hH (Nat.le_succ q)⟩, hE, ?_, ?_⟩
  · refine ⟨hK.1, ?_⟩
    rcases hK.2 with g | ⟨g1, ⟨n2, c2, m2, g2⟩, g3⟩
    · exact Or.inl g
    · exact Or.inr ⟨g1, ⟨n2, c2, m2, okH.mono g2 (Nat.le_succ q)⟩, g3⟩
  · obtain ⟨o1, o2, o3, o4, o5⟩ := hO
    refine ⟨o1, o2, o3, o4, ?_⟩
    unfold rfM rfC
    simp only [u2_row, Nat.reduceEqDiff, reduceIte]
    rw [o5]
def OPi (X : SX) (k1 k2 : Nat) (as : List Value) : Prop := ∀ (q : Nat) (I : Nat → Nat → Int32) (L : Nat → Nat → Int64), q ≤ 100 → Inv q I → ∃ (r : Int32) (I1 : Nat → Nat → Int32) (L1 : Nat → Nat → Int64) (I2 : Nat → Nat → Int32) (L2 : Nat → Nat → Int64), caD X k1 (.ref 0 :: as) (ms I L) = some (some (.int r), ms I1 L1) ∧ caD X k2 (.ref 71 :: as) (ms I1 L1) = some (some (.int r), ms I2 L2) ∧ Inv (q + 1) I2
def OPl (X : SX) (k1 k2 : Nat) (as : List Value) : Prop := ∀ (q : Nat) (I : Nat → Nat → Int32) (L : Nat → Nat → Int64), q ≤ 100 → Inv q I → ∃ (r : Int64) (I1 : Nat → Nat → Int32) (L1 : Nat → Nat → Int64) (I2 : Nat → Nat → Int32) (L2 : Nat → Nat → Int64), caD X k1 (.ref 0 :: as) (ms I L) = some (some (.long r), ms I1 L1) ∧ caD X k2 (.ref 71 :: as) (ms I1 L1) = some (some (.long r), ms I2 L2) ∧ Inv (q + 1) I2
theorem Same.rf {I : Nat → Nat → Int32} : Same I I := ⟨fun _ _ => rfl, fun _ _ _ => rfl, rfl, fun _ _ _ => rfl, rfl, fun _ _ => rfl, fun _ _ _ _ _ _ => rfl⟩
theorem rf1 : isRf (-1) := Or.inl rfl
theorem rf2 : isRf (-2) := Or.inr (Or.inl rfl)
theorem rf3 : isRf (-3) := Or.inr (Or.inr (Or.inl rfl))
theorem rf4 : isRf (-4) := Or.inr (Or.inr (Or.inr (Or.inl rfl)))
theorem rf6 : isRf (-6) := Or.inr (Or.inr (Or.inr (Or.inr rfl)))
