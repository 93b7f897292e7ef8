/-! pairs of calls: bestRound; the rounds in their order -/
def VV (n : Nat) (f : Nat → Nat) : Nat → Nat
  | 0 => 0
  | d + 1 => VV n f d * n + f d
def tur (n : Nat) : Nat → (Nat → Nat) → Nat → Nat
  | 0, f => f
  | d + 1, f => if f d + 1 < n then (fun p => if p = d then f d + 1 else f p) else tur n d (fun p => if p = d then 0 else f p)
theorem VV_c {n : Nat} {f g : Nat → Nat} : ∀ (d : Nat), (∀ p, p < d → f p = g p) → VV n f d = VV n g d := by
  intro d
  induction d with
  | zero => intro _; rfl
  | succ d ih =>
    intro h
    show VV n f d * n + f d = VV n g d * n + g d
    rw [ih (fun p hp => h p (by omega)), h d (by omega)]
theorem tur_up (n : Nat) : ∀ (d : Nat) (f : Nat → Nat), (∀ p, d ≤ p → tur n d f p = f p) := by
  intro d
  induction d with
  | zero => intro f p _; rfl
  | succ d ih =>
    intro f p hp
    unfold tur
    split
    · simp only
      rw [if_neg (by omega)]
    · rw [ih _ p (by omega)]
      rw [if_neg (by omega)]
theorem tur_V {n : Nat} (hn : 2 ≤ n) : ∀ (d : Nat) (f : Nat → Nat), (∀ p, p < d → f p < n) → VV n f d + 1 < n ^ d → VV n (tur n d f) d = VV n f d + 1 ∧ ∀ p, p < d → tur n d f p < n := by
  intro d
  induction d with
  | zero =>
    intro f _ h
    exact absurd h (by simp [VV])
  | succ d ih =>
    intro f hf h
    by_cases hc : f d + 1 < n
    · have e : tur n (d + 1) f = fun p => if p = d then f d + 1 else f p := by
        show (if f d + 1 < n then _ else _) = _
        rw [if_pos hc]
      rw [e]
      refine ⟨?_, fun p hp => ?_⟩
      · show VV n (fun p => if p = d then f d + 1 else f p) d * n + (if d = d then f d + 1 else f d) = VV n f d * n + f d + 1
        rw [VV_c (g := f) d (fun p hp => if_neg (by omega)), if_pos rfl]
        omega
      · simp only
        split
        · exact hc
        · exact hf p hp
    · have e : tur n (d + 1) f = tur n d (fun p => if p = d then 0 else f p) := by
        show (if f d + 1 < n then _ else _) = _
        rw [if_neg hc]
      have hd := hf d (by omega)
      have hV : VV n (fun p => if p = d then 0 else f p) d = VV n f d := VV_c d (fun p hp => if_neg (by omega))
      have h2 : VV n f d + 1 < n ^ d := by
        have h3 : VV n f d * n + f d + 1 < n ^ d * n := h
        have h4 : (VV n f d + 1) * n < n ^ d * n := by
          rw [Nat.add_mul, Nat.one_mul]
          omega
        exact Nat.lt_of_mul_lt_mul_right h4
      obtain ⟨i1, i2⟩ := ih (fun p => if p = d then 0 else f p) (fun p hp => by rw [if_neg (by omega)]; exact hf p (by omega)) (by rw [hV]; exact h2)
      rw [e]
      have ht := tur_up n d (fun p => if p = d then 0 else f p) d (Nat.le_refl d)
      simp only [reduceIte] at ht
      refine ⟨?_, fun p hp => ?_⟩
      · show VV n (tur n d _) d * n + tur n d _ d = VV n f d * n + f d + 1
        rw [i1, hV, ht, Nat.add_mul, Nat.one_mul]
        omega
      · by_cases ep : p = d
        · rw [ep, ht]; omega
        · exact i2 p (by omega)
def dgt (n k t p : Nat) : Nat := t / n ^ (k - 1 - p) % n
theorem VV_dgt {n : Nat} (hn : 2 ≤ n) : ∀ (k t : Nat) (f : Nat → Nat), (∀ p, p < k → f p < n) → VV n f k = t → ∀ p, p < k → f p = dgt n k t p := by
  intro k
  induction k with
  | zero => intro t f _ _ p hp; exact absurd hp (by omega)
  | succ k ih =>
    intro t f hf hV p hp
    have hk := hf k (by omega)
    have hV2 : VV n f k * n + f k = t := hV
    unfold dgt
    by_cases e : p = k
    · subst e
      rw [show p + 1 - 1 - p = 0 by omega, Nat.pow_zero, Nat.div_one, ← hV2, Nat.mul_comm, Nat.mul_add_mod, Nat.mod_eq_of_lt hk]
    · have h1 : t / n = VV n f k := by
        rw [← hV2, Nat.mul_comm, Nat.mul_add_div (by omega), Nat.div_eq_of_lt hk, Nat.add_zero]
      rw [ih (VV n f k) f (fun p hp => hf p (by omega)) rfl p (by omega)]
      unfold dgt
      rw [show k + 1 - 1 - p = (k - 1 - p) + 1 by omega, Nat.pow_succ, Nat.mul_comm, ← Nat.div_div_eq_div_mul, h1]
def plT (n k t : Nat) : Nat → Int32 := fun p => nI (dgt n k t p)
def dcF (pl : Nat → Int32) : Nat → Int32 → Int32
  | 0, v => v
  | d + 1, v => dcF pl d (10 * v + pl d)
/-- the first of the best: digits, how many -/
def bsF (A : Nat → Nat) (D : Nat → Int32) : Nat → Nat → Int32 → Int32 → Int32 × Int32
  | 0, _, d, b => (d, b)
  | r + 1, t, d, b => if b < nI (A t) then bsF A D r (t + 1) (D t) (nI (A t)) else bsF A D r (t + 1) d b
theorem bsF_s (A : Nat → Nat) (D : Nat → Int32) (r t : Nat) (d b : Int32) : bsF A D (r + 1) t d b = if b < nI (A t) then bsF A D r (t + 1) (D t) (nI (A t)) else bsF A D r (t + 1) d b := rfl
theorem bitA_pl {I : Nat → Nat → Int32} {n c i cnt : Nat} {pl pl2 : Nat → Int32} (h : ∀ p, p < cnt → pl2 p = pl p ∧ (pl p = 9 ∨ ∃ b, b < 5 ∧ pl p = nI b)) : bitA I n c i cnt pl2 = bitA I n c i cnt pl := by
  funext s
  exact wkF_x cnt 0 0 0 0 (fun j h1 h2 => h j (by omega)) (fun _ _ _ _ _ => rfl)
theorem plT_b {n k t : Nat} (hn2 : 2 ≤ n) (hn5 : n ≤ 5) (p : Nat) : plT n k t p = 9 ∨ ∃ b, b < 5 ∧ plT n k t p = nI b := Or.inr ⟨dgt n k t p, Nat.lt_of_lt_of_le (Nat.mod_lt _ (by omega)) hn5, rfl⟩
theorem mulS {a n : Nat} (ha : a ≤ 25) (hn : n ≤ 5) : nI a * nI n = nI (a * n) := by
  have : ∀ a : Fin 26, ∀ n : Fin 6, nI a.val * nI n.val = nI (a.val * n.val) := by decide
  exact this ⟨a, by omega⟩ ⟨n, by omega⟩
theorem pow_le {n k : Nat} (hn : n ≤ 5) (hk : k ≤ 2) : n ^ k ≤ 25 := by
  have h : k = 0 ∨ k = 1 ∨ k = 2 := by omega
  rcases h with rfl | rfl | rfl
  · simp
  · simp; omega
  · rw [Nat.pow_two]; exact Nat.le_trans (Nat.mul_le_mul hn hn) (by decide)
section
variable {X : SX} {L : Nat → Nat → Int64}
theorem c55 {J : Nat → Nat → Int32} {k : Nat} {pl : Nat → Int32} (hk : k ≤ 3) (h1 : J 68 1 = nI k) (hpl : ∀ p, p < k → J 69 p = pl p) : caD X 55 [.ref 58] (ms J L) = some (some (.int (dcF pl k 0)), ms J L) := by
  have key : ∀ (d : Nat) (v x : Int32), d ≤ k → x = nI d - 1 → exD X 55 12 [some (.ref 58), some (.int v), some (.int x)] [] (ms J L) = some (some (.int (dcF pl d v)), ms J L) := by
    intro d
    induction d with
    | zero =>
      intro v x _ hx
      have hlt : (nI 0 - 1 : Int32) < 0 := by decide
      rw [hx, a55_12]
      simp only [a55_0, a55_1, a55_2, a55_3, a55_6, a55_9, a55_10, a55_11, a55_13, a55_16, a55_18, a55_19, a55_20, a55_21, a55_24, a55_27, a55_28, a55_29, a55_30, a55_31, a55_34, a55_37, a55_38, qgR_some, qiaR_1, qlaR_2, qlnR_1, qlnR_2, qcpR_1, qcR_some, qpsh_v, qpsh_n, qcS_0, qcS_i, qcS_r, qcS_l, qst1_0_x, qst2_0_x, qst1_1_n, qst2_1_n, qst1_1_i, qst2_1_i, qst1_1_r, qst2_1_r, qst1_2_n, qst2_2_n, qst1_2_i, qst2_2_i, qst1_2_r, qst2_2_r, qst1_3_n, qst2_3_n, qst1_3_i, qst2_3_i, qst1_3_r, qst2_3_r, qst1_4_n, qst2_4_n, qst1_4_i, qst2_4_i, qst1_4_r, qst2_4_r, qst1_5_n, qst2_5_n, qst1_5_i, qst2_5_i, qst1_5_r, qst2_5_r, qst1_6_n, qst2_6_n, qst1_6_i, qst2_6_i, qst1_6_r, qst2_6_r, qst1_7_n, qst2_7_n, qst1_7_i, qst2_7_i, qst1_7_r, qst2_7_r, qst1_8_n, qst2_8_n, qst1_8_i, qst2_8_i, qst1_8_r, qst2_8_r, qst1_9_n, qst2_9_n, qst1_9_i, qst2_9_i, qst1_9_r, qst2_9_r, qst1_10_n, qst2_10_n, qst1_10_i, qst2_10_i, qst1_10_r, qst2_10_r, qst1_11_n, qst2_11_n, qst1_11_i, qst2_11_i, qst1_11_r, qst2_11_r, qswE_0, qswE_s, u2_row, z2_row, n32_0_1, n32_0_2, n32_0_3, n32_0_4, n32_0_5, n32_0_6, n32_0_7, n32_0_8, n32_1_0, n32_1_2, n32_1_3, n32_1_4, n32_1_5, n32_1_6, n32_1_7, n32_1_8, n32_2_0, n32_2_1, n32_2_3, n32_2_4, n32_2_5, n32_2_6, n32_2_7, n32_2_8, n32_3_0, n32_3_1, n32_3_2, n32_3_4, n32_3_5, n32_3_6, n32_3_7, n32_3_8, n32_4_0, n32_4_1, n32_4_2, n32_4_3, n32_4_5, n32_4_6, n32_4_7, n32_4_8, n32_5_0, n32_5_1, n32_5_2, n32_5_3, n32_5_4, n32_5_6, n32_5_7, n32_5_8, n32_6_0, n32_6_1, n32_6_2, n32_6_3, n32_6_4, n32_6_5, n32_6_7, n32_6_8, n32_7_0, n32_7_1, n32_7_2, n32_7_3, n32_7_4, n32_7_5, n32_7_6, n32_7_8, n32_8_0, n32_8_1, n32_8_2, n32_8_3, n32_8_4, n32_8_5, n32_8_6, n32_8_7, n32_m1_0, n32_m1_1, n32_m1_2, n32_m2_0, n32_m2_1, n32_m2_2, n32_m3_0, n32_m3_1, n32_m3_2, n32_m4_0, n32_m4_1, n32_m4_2, n32_m6_0, n32_m6_1, n32_m6_2, n32_m9_0, n32_m9_1, n32_m9_2, true_or, or_true, if_true, if_false, eq_self, and_true, true_and, and_self, reduceCtorEq, not_true_eq_false, not_false_eq_true, or_self, false_or, or_false, false_and, and_false, Option.some.injEq, Prod.mk.injEq, Nat.reduceAdd, Nat.reduceMul, Nat.reduceSub, Nat.reduceLT, Nat.reduceEqDiff, Nat.reduceLeDiff, Int32.reduceAdd, Int32.reduceMul, Int32.reduceSub, Int32.reduceLT, Int32.reduceLE, Int32.reduceOfNat, Int32.reduceToNatClampNeg, reduceIte, Nat.zero_le, Nat.reduceDiv, qhk_0, qhk_1, qhk_2, qhk_3, qhk_4, qhk_5, qhk_6, qhk_7, qhk_8, qhk_9, qhk_10, qhk_11, qhk_12, qhk_13, qhk_14, qhk_15, qhk_16, qhk_17, qhk_18, qhk_19, qhk_20, qhk_21, qhk_22, qhk_23, qhk_24, qhk_25, qhk_26, qhk_27, qhk_28, qhk_29, qhk_30, qhk_31, qhk_32, qhk_33, qhk_34, qhk_35, qhk_36, qhk_37, qhk_38, qhk_39, qhk_40, qhk_41, qhk_42, qhk_43, qhk_44, qhk_45, qhk_46, qhk_47, qhk_48, qhk_49, qhk_50, qhk_51, qhk_52, qhk_53, qhk_54, qhk_55, qhk_56, qhk_57, qhk_58, qhk_59, qhk_60, qhk_61, qhk_62, qhk_63, qhk_64, qhk_65, qhk_66, qhk_67, qhk_68, qhk_69, qhk_70, qhk_71, qhk_72, qhk_73, qhk_74, qhk_75, qhk_76, qhk_77, qhk_78, qhk_79, qhk_80, qhk_81, qhk_82, qhk_83, qhk_84, qhk_85, qhk_86, qhk_87, qhk_88, qhk_89, qhk_90, qhk_91, qhk_92, qhk_93, qhk_94, qhk_95, qhk_96, pp_0_0, pp_0_1, pp_0_2, pp_0_4, pp_0_5, pp_0_6, pp_0_7, pp_0_8, pp_0_9, pp_1_3, pp_1_4, pp_1_5, pp_1_6, pp_1_7, pp_1_8, pp_1_9, pp_7_1, pp_7_2, pp_7_3, pp_7_4, pp_12_1, pp_12_2, pp_12_3, pp_12_4, pp_17_3, pp_17_4, pp_17_5, pp_17_6, pp_17_7, pp_17_8, pp_17_9, pp_23_1, pp_23_2, pp_23_3, pp_23_4, pp_28_1, pp_28_2, pp_28_3, pp_28_4, pp_33_3, pp_33_4, pp_33_5, pp_33_6, pp_33_7, pp_33_8, pp_33_9, pp_39_1, pp_39_2, pp_39_3, pp_39_4, pp_44_1, pp_44_2, pp_44_3, pp_44_4, pp_49_0, pp_51_0, pp_53_0, pp_53_1, pp_53_2, pp_58_0, pp_58_1, pp_58_4, pp_58_5, pp_58_6, pp_58_7, pp_61_0, pp_61_1, pp_61_2, pp_65_0, pp_68_0, pp_71_0, pp_71_1, pp_71_2, pp_71_3, pp_71_4, pp_71_5, pp_71_6, pp_71_7, pp_71_8, pp_71_9, pp_71_10, pp_71_11, pp_71_12, pp_71_21, pp_71_22, pp_71_23, pp_71_24, pp_71_28, pp_71_32, pp_71_33, pp_71_34, pp_71_35, pp_71_36, pp_71_39, pp_71_40, hlt]
      rfl
    | succ d ih =>
      intro v x hd hx
      have e : (nI (d + 1) - 1 : Int32) = nI d := by
        have h : ∀ d : Fin 4, (nI (d.val + 1) - 1 : Int32) = nI d.val := by decide
        exact h ⟨d, by omega⟩
      have hp : ¬ nI d < 0 := nI_pos (by omega)
      have b1 : inB (nI d) 8 := inB_nI (by omega) (by omega)
      have d1 : (nI d).toNatClampNeg = d := nI_clamp (by omega)
      have e2 : nI d + -1 = nI d - 1 := (Int32.sub_eq_add_neg _ _).symm
      rw [hx, e, a55_12]
      simp only [a55_0, a55_1, a55_2, a55_3, a55_6, a55_9, a55_10, a55_11, a55_13, a55_16, a55_18, a55_19, a55_20, a55_21, a55_24, a55_27, a55_28, a55_29, a55_30, a55_31, a55_34, a55_37, a55_38, qgR_some, qiaR_1, qlaR_2, qlnR_1, qlnR_2, qcpR_1, qcR_some, qpsh_v, qpsh_n, qcS_0, qcS_i, qcS_r, qcS_l, qst1_0_x, qst2_0_x, qst1_1_n, qst2_1_n, qst1_1_i, qst2_1_i, qst1_1_r, qst2_1_r, qst1_2_n, qst2_2_n, qst1_2_i, qst2_2_i, qst1_2_r, qst2_2_r, qst1_3_n, qst2_3_n, qst1_3_i, qst2_3_i, qst1_3_r, qst2_3_r, qst1_4_n, qst2_4_n, qst1_4_i, qst2_4_i, qst1_4_r, qst2_4_r, qst1_5_n, qst2_5_n, qst1_5_i, qst2_5_i, qst1_5_r, qst2_5_r, qst1_6_n, qst2_6_n, qst1_6_i, qst2_6_i, qst1_6_r, qst2_6_r, qst1_7_n, qst2_7_n, qst1_7_i, qst2_7_i, qst1_7_r, qst2_7_r, qst1_8_n, qst2_8_n, qst1_8_i, qst2_8_i, qst1_8_r, qst2_8_r, qst1_9_n, qst2_9_n, qst1_9_i, qst2_9_i, qst1_9_r, qst2_9_r, qst1_10_n, qst2_10_n, qst1_10_i, qst2_10_i, qst1_10_r, qst2_10_r, qst1_11_n, qst2_11_n, qst1_11_i, qst2_11_i, qst1_11_r, qst2_11_r, qswE_0, qswE_s, u2_row, z2_row, n32_0_1, n32_0_2, n32_0_3, n32_0_4, n32_0_5, n32_0_6, n32_0_7, n32_0_8, n32_1_0, n32_1_2, n32_1_3, n32_1_4, n32_1_5, n32_1_6, n32_1_7, n32_1_8, n32_2_0, n32_2_1, n32_2_3, n32_2_4, n32_2_5, n32_2_6, n32_2_7, n32_2_8, n32_3_0, n32_3_1, n32_3_2, n32_3_4, n32_3_5, n32_3_6, n32_3_7, n32_3_8, n32_4_0, n32_4_1, n32_4_2, n32_4_3, n32_4_5, n32_4_6, n32_4_7, n32_4_8, n32_5_0, n32_5_1, n32_5_2, n32_5_3, n32_5_4, n32_5_6, n32_5_7, n32_5_8, n32_6_0, n32_6_1, n32_6_2, n32_6_3, n32_6_4, n32_6_5, n32_6_7, n32_6_8, n32_7_0, n32_7_1, n32_7_2, n32_7_3, n32_7_4, n32_7_5, n32_7_6, n32_7_8, n32_8_0, n32_8_1, n32_8_2, n32_8_3, n32_8_4, n32_8_5, n32_8_6, n32_8_7, n32_m1_0, n32_m1_1, n32_m1_2, n32_m2_0, n32_m2_1, n32_m2_2, n32_m3_0, n32_m3_1, n32_m3_2, n32_m4_0, n32_m4_1, n32_m4_2, n32_m6_0, n32_m6_1, n32_m6_2, n32_m9_0, n32_m9_1, n32_m9_2, true_or, or_true, if_true, if_false, eq_self, and_true, true_and, and_self, reduceCtorEq, not_true_eq_false, not_false_eq_true, or_self, false_or, or_false, false_and, and_false, Option.some.injEq, Prod.mk.injEq, Nat.reduceAdd, Nat.reduceMul, Nat.reduceSub, Nat.reduceLT, Nat.reduceEqDiff, Nat.reduceLeDiff, Int32.reduceAdd, Int32.reduceMul, Int32.reduceSub, Int32.reduceLT, Int32.reduceLE, Int32.reduceOfNat, Int32.reduceToNatClampNeg, reduceIte, Nat.zero_le, Nat.reduceDiv, qhk_0, qhk_1, qhk_2, qhk_3, qhk_4, qhk_5, qhk_6, qhk_7, qhk_8, qhk_9, qhk_10, qhk_11, qhk_12, qhk_13, qhk_14, qhk_15, qhk_16, qhk_17, qhk_18, qhk_19, qhk_20, qhk_21, qhk_22, qhk_23, qhk_24, qhk_25, qhk_26, qhk_27, qhk_28, qhk_29, qhk_30, qhk_31, qhk_32, qhk_33, qhk_34, qhk_35, qhk_36, qhk_37, qhk_38, qhk_39, qhk_40, qhk_41, qhk_42, qhk_43, qhk_44, qhk_45, qhk_46, qhk_47, qhk_48, qhk_49, qhk_50, qhk_51, qhk_52, qhk_53, qhk_54, qhk_55, qhk_56, qhk_57, qhk_58, qhk_59, qhk_60, qhk_61, qhk_62, qhk_63, qhk_64, qhk_65, qhk_66, qhk_67, qhk_68, qhk_69, qhk_70, qhk_71, qhk_72, qhk_73, qhk_74, qhk_75, qhk_76, qhk_77, qhk_78, qhk_79, qhk_80, qhk_81, qhk_82, qhk_83, qhk_84, qhk_85, qhk_86, qhk_87, qhk_88, qhk_89, qhk_90, qhk_91, qhk_92, qhk_93, qhk_94, qhk_95, qhk_96, pp_0_0, pp_0_1, pp_0_2, pp_0_4, pp_0_5, pp_0_6, pp_0_7, pp_0_8, pp_0_9, pp_1_3, pp_1_4, pp_1_5, pp_1_6, pp_1_7, pp_1_8, pp_1_9, pp_7_1, pp_7_2, pp_7_3, pp_7_4, pp_12_1, pp_12_2, pp_12_3, pp_12_4, pp_17_3, pp_17_4, pp_17_5, pp_17_6, pp_17_7, pp_17_8, pp_17_9, pp_23_1, pp_23_2, pp_23_3, pp_23_4, pp_28_1, pp_28_2, pp_28_3, pp_28_4, pp_33_3, pp_33_4, pp_33_5, pp_33_6, pp_33_7, pp_33_8, pp_33_9, pp_39_1, pp_39_2, pp_39_3, pp_39_4, pp_44_1, pp_44_2, pp_44_3, pp_44_4, pp_49_0, pp_51_0, pp_53_0, pp_53_1, pp_53_2, pp_58_0, pp_58_1, pp_58_4, pp_58_5, pp_58_6, pp_58_7, pp_61_0, pp_61_1, pp_61_2, pp_65_0, pp_68_0, pp_71_0, pp_71_1, pp_71_2, pp_71_3, pp_71_4, pp_71_5, pp_71_6, pp_71_7, pp_71_8, pp_71_9, pp_71_10, pp_71_11, pp_71_12, pp_71_21, pp_71_22, pp_71_23, pp_71_24, pp_71_28, pp_71_32, pp_71_33, pp_71_34, pp_71_35, pp_71_36, pp_71_39, pp_71_40, hp, b1, d1, hpl d (by omega)]
      exact ih _ _ (by omega) e2
  simp only [e55, a55_0, a55_1, a55_2, a55_3, a55_6, a55_9, a55_10, a55_11, a55_13, a55_16, a55_18, a55_19, a55_20, a55_21, a55_24, a55_27, a55_28, a55_29, a55_30, a55_31, a55_34, a55_37, a55_38, qgR_some, qiaR_1, qlaR_2, qlnR_1, qlnR_2, qcpR_1, qcR_some, qpsh_v, qpsh_n, qcS_0, qcS_i, qcS_r, qcS_l, qst1_0_x, qst2_0_x, qst1_1_n, qst2_1_n, qst1_1_i, qst2_1_i, qst1_1_r, qst2_1_r, qst1_2_n, qst2_2_n, qst1_2_i, qst2_2_i, qst1_2_r, qst2_2_r, qst1_3_n, qst2_3_n, qst1_3_i, qst2_3_i, qst1_3_r, qst2_3_r, qst1_4_n, qst2_4_n, qst1_4_i, qst2_4_i, qst1_4_r, qst2_4_r, qst1_5_n, qst2_5_n, qst1_5_i, qst2_5_i, qst1_5_r, qst2_5_r, qst1_6_n, qst2_6_n, qst1_6_i, qst2_6_i, qst1_6_r, qst2_6_r, qst1_7_n, qst2_7_n, qst1_7_i, qst2_7_i, qst1_7_r, qst2_7_r, qst1_8_n, qst2_8_n, qst1_8_i, qst2_8_i, qst1_8_r, qst2_8_r, qst1_9_n, qst2_9_n, qst1_9_i, qst2_9_i, qst1_9_r, qst2_9_r, qst1_10_n, qst2_10_n, qst1_10_i, qst2_10_i, qst1_10_r, qst2_10_r, qst1_11_n, qst2_11_n, qst1_11_i, qst2_11_i, qst1_11_r, qst2_11_r, qswE_0, qswE_s, u2_row, z2_row, n32_0_1, n32_0_2, n32_0_3, n32_0_4, n32_0_5, n32_0_6, n32_0_7, n32_0_8, n32_1_0, n32_1_2, n32_1_3, n32_1_4, n32_1_5, n32_1_6, n32_1_7, n32_1_8, n32_2_0, n32_2_1, n32_2_3, n32_2_4, n32_2_5, n32_2_6, n32_2_7, n32_2_8, n32_3_0, n32_3_1, n32_3_2, n32_3_4, n32_3_5, n32_3_6, n32_3_7, n32_3_8, n32_4_0, n32_4_1, n32_4_2, n32_4_3, n32_4_5, n32_4_6, n32_4_7, n32_4_8, n32_5_0, n32_5_1, n32_5_2, n32_5_3, n32_5_4, n32_5_6, n32_5_7, n32_5_8, n32_6_0, n32_6_1, n32_6_2, n32_6_3, n32_6_4, n32_6_5, n32_6_7, n32_6_8, n32_7_0, n32_7_1, n32_7_2, n32_7_3, n32_7_4, n32_7_5, n32_7_6, n32_7_8, n32_8_0, n32_8_1, n32_8_2, n32_8_3, n32_8_4, n32_8_5, n32_8_6, n32_8_7, n32_m1_0, n32_m1_1, n32_m1_2, n32_m2_0, n32_m2_1, n32_m2_2, n32_m3_0, n32_m3_1, n32_m3_2, n32_m4_0, n32_m4_1, n32_m4_2, n32_m6_0, n32_m6_1, n32_m6_2, n32_m9_0, n32_m9_1, n32_m9_2, true_or, or_true, if_true, if_false, eq_self, and_true, true_and, and_self, reduceCtorEq, not_true_eq_false, not_false_eq_true, or_self, false_or, or_false, false_and, and_false, Option.some.injEq, Prod.mk.injEq, Nat.reduceAdd, Nat.reduceMul, Nat.reduceSub, Nat.reduceLT, Nat.reduceEqDiff, Nat.reduceLeDiff, Int32.reduceAdd, Int32.reduceMul, Int32.reduceSub, Int32.reduceLT, Int32.reduceLE, Int32.reduceOfNat, Int32.reduceToNatClampNeg, reduceIte, Nat.zero_le, Nat.reduceDiv, qhk_0, qhk_1, qhk_2, qhk_3, qhk_4, qhk_5, qhk_6, qhk_7, qhk_8, qhk_9, qhk_10, qhk_11, qhk_12, qhk_13, qhk_14, qhk_15, qhk_16, qhk_17, qhk_18, qhk_19, qhk_20, qhk_21, qhk_22, qhk_23, qhk_24, qhk_25, qhk_26, qhk_27, qhk_28, qhk_29, qhk_30, qhk_31, qhk_32, qhk_33, qhk_34, qhk_35, qhk_36, qhk_37, qhk_38, qhk_39, qhk_40, qhk_41, qhk_42, qhk_43, qhk_44, qhk_45, qhk_46, qhk_47, qhk_48, qhk_49, qhk_50, qhk_51, qhk_52, qhk_53, qhk_54, qhk_55, qhk_56, qhk_57, qhk_58, qhk_59, qhk_60, qhk_61, qhk_62, qhk_63, qhk_64, qhk_65, qhk_66, qhk_67, qhk_68, qhk_69, qhk_70, qhk_71, qhk_72, qhk_73, qhk_74, qhk_75, qhk_76, qhk_77, qhk_78, qhk_79, qhk_80, qhk_81, qhk_82, qhk_83, qhk_84, qhk_85, qhk_86, qhk_87, qhk_88, qhk_89, qhk_90, qhk_91, qhk_92, qhk_93, qhk_94, qhk_95, qhk_96, pp_0_0, pp_0_1, pp_0_2, pp_0_4, pp_0_5, pp_0_6, pp_0_7, pp_0_8, pp_0_9, pp_1_3, pp_1_4, pp_1_5, pp_1_6, pp_1_7, pp_1_8, pp_1_9, pp_7_1, pp_7_2, pp_7_3, pp_7_4, pp_12_1, pp_12_2, pp_12_3, pp_12_4, pp_17_3, pp_17_4, pp_17_5, pp_17_6, pp_17_7, pp_17_8, pp_17_9, pp_23_1, pp_23_2, pp_23_3, pp_23_4, pp_28_1, pp_28_2, pp_28_3, pp_28_4, pp_33_3, pp_33_4, pp_33_5, pp_33_6, pp_33_7, pp_33_8, pp_33_9, pp_39_1, pp_39_2, pp_39_3, pp_39_4, pp_44_1, pp_44_2, pp_44_3, pp_44_4, pp_49_0, pp_51_0, pp_53_0, pp_53_1, pp_53_2, pp_58_0, pp_58_1, pp_58_4, pp_58_5, pp_58_6, pp_58_7, pp_61_0, pp_61_1, pp_61_2, pp_65_0, pp_68_0, pp_71_0, pp_71_1, pp_71_2, pp_71_3, pp_71_4, pp_71_5, pp_71_6, pp_71_7, pp_71_8, pp_71_9, pp_71_10, pp_71_11, pp_71_12, pp_71_21, pp_71_22, pp_71_23, pp_71_24, pp_71_28, pp_71_32, pp_71_33, pp_71_34, pp_71_35, pp_71_36, pp_71_39, pp_71_40, h1]
  exact key k 0 _ (Nat.le_refl k) rfl
theorem c56 {J : Nat → Nat → Int32} {n k : Nat} {f : Nat → Nat} (hn2 : 2 ≤ n) (hn5 : n ≤ 5) (hk : k ≤ 3) (h1 : J 68 1 = nI k) (hf : ∀ p, p < k → J 69 p = nI (f p) ∧ f p < n) : ∃ K, caD X 56 [.ref 58, .int (nI n)] (ms J L) = some (none, ms K L) ∧ (∀ b, b ≠ 69 → K b = J b) ∧ ∀ p, p < k → K 69 p = nI (tur n k f p) := by
  have key : ∀ (d : Nat) (f : Nat → Nat) (x : Int32) (J : Nat → Nat → Int32), d ≤ k → x = nI d - 1 → (∀ p, p < k → J 69 p = nI (f p)) → (∀ p, p < d → f p < n) → ∃ K, exD X 56 10 [some (.ref 58), some (.int (nI n)), some (.int x)] [] (ms J L) = some (none, ms K L) ∧ (∀ b, b ≠ 69 → K b = J b) ∧ ∀ p, p < k → K 69 p = nI (tur n d f p) := by
    intro d
    induction d with
    | zero =>
      intro f x J _ hx hJ _
      have hlt : (nI 0 - 1 : Int32) < 0 := by decide
      refine ⟨J, ?_, fun _ _ => rfl, hJ⟩
      rw [hx, a56_10]
      simp only [a56_0, a56_1, a56_4, a56_7, a56_8, a56_9, a56_11, a56_14, a56_15, a56_18, a56_21, a56_22, a56_23, a56_24, a56_25, a56_26, a56_27, a56_28, a56_31, a56_34, a56_35, a56_36, a56_37, a56_40, a56_41, a56_42, a56_45, a56_48, a56_49, a56_50, a56_51, a56_54, a56_57, qgR_some, qiaR_1, qlaR_2, qlnR_1, qlnR_2, qcpR_1, qcR_some, qpsh_v, qpsh_n, qcS_0, qcS_i, qcS_r, qcS_l, qst1_0_x, qst2_0_x, qst1_1_n, qst2_1_n, qst1_1_i, qst2_1_i, qst1_1_r, qst2_1_r, qst1_2_n, qst2_2_n, qst1_2_i, qst2_2_i, qst1_2_r, qst2_2_r, qst1_3_n, qst2_3_n, qst1_3_i, qst2_3_i, qst1_3_r, qst2_3_r, qst1_4_n, qst2_4_n, qst1_4_i, qst2_4_i, qst1_4_r, qst2_4_r, qst1_5_n, qst2_5_n, qst1_5_i, qst2_5_i, qst1_5_r, qst2_5_r, qst1_6_n, qst2_6_n, qst1_6_i, qst2_6_i, qst1_6_r, qst2_6_r, qst1_7_n, qst2_7_n, qst1_7_i, qst2_7_i, qst1_7_r, qst2_7_r, qst1_8_n, qst2_8_n, qst1_8_i, qst2_8_i, qst1_8_r, qst2_8_r, qst1_9_n, qst2_9_n, qst1_9_i, qst2_9_i, qst1_9_r, qst2_9_r, qst1_10_n, qst2_10_n, qst1_10_i, qst2_10_i, qst1_10_r, qst2_10_r, qst1_11_n, qst2_11_n, qst1_11_i, qst2_11_i, qst1_11_r, qst2_11_r, qswE_0, qswE_s, u2_row, z2_row, n32_0_1, n32_0_2, n32_0_3, n32_0_4, n32_0_5, n32_0_6, n32_0_7, n32_0_8, n32_1_0, n32_1_2, n32_1_3, n32_1_4, n32_1_5, n32_1_6, n32_1_7, n32_1_8, n32_2_0, n32_2_1, n32_2_3, n32_2_4, n32_2_5, n32_2_6, n32_2_7, n32_2_8, n32_3_0, n32_3_1, n32_3_2, n32_3_4, n32_3_5, n32_3_6, n32_3_7, n32_3_8, n32_4_0, n32_4_1, n32_4_2, n32_4_3, n32_4_5, n32_4_6, n32_4_7, n32_4_8, n32_5_0, n32_5_1, n32_5_2, n32_5_3, n32_5_4, n32_5_6, n32_5_7, n32_5_8, n32_6_0, n32_6_1, n32_6_2, n32_6_3, n32_6_4, n32_6_5, n32_6_7, n32_6_8, n32_7_0, n32_7_1, n32_7_2, n32_7_3, n32_7_4, n32_7_5, n32_7_6, n32_7_8, n32_8_0, n32_8_1, n32_8_2, n32_8_3, n32_8_4, n32_8_5, n32_8_6, n32_8_7, n32_m1_0, n32_m1_1, n32_m1_2, n32_m2_0, n32_m2_1, n32_m2_2, n32_m3_0, n32_m3_1, n32_m3_2, n32_m4_0, n32_m4_1, n32_m4_2, n32_m6_0, n32_m6_1, n32_m6_2, n32_m9_0, n32_m9_1, n32_m9_2, true_or, or_true, if_true, if_false, eq_self, and_true, true_and, and_self, reduceCtorEq, not_true_eq_false, not_false_eq_true, or_self, false_or, or_false, false_and, and_false, Option.some.injEq, Prod.mk.injEq, Nat.reduceAdd, Nat.reduceMul, Nat.reduceSub, Nat.reduceLT, Nat.reduceEqDiff, Nat.reduceLeDiff, Int32.reduceAdd, Int32.reduceMul, Int32.reduceSub, Int32.reduceLT, Int32.reduceLE, Int32.reduceOfNat, Int32.reduceToNatClampNeg, reduceIte, Nat.zero_le, Nat.reduceDiv, qhk_0, qhk_1, qhk_2, qhk_3, qhk_4, qhk_5, qhk_6, qhk_7, qhk_8, qhk_9, qhk_10, qhk_11, qhk_12, qhk_13, qhk_14, qhk_15, qhk_16, qhk_17, qhk_18, qhk_19, qhk_20, qhk_21, qhk_22, qhk_23, qhk_24, qhk_25, qhk_26, qhk_27, qhk_28, qhk_29, qhk_30, qhk_31, qhk_32, qhk_33, qhk_34, qhk_35, qhk_36, qhk_37, qhk_38, qhk_39, qhk_40, qhk_41, qhk_42, qhk_43, qhk_44, qhk_45, qhk_46, qhk_47, qhk_48, qhk_49, qhk_50, qhk_51, qhk_52, qhk_53, qhk_54, qhk_55, qhk_56, qhk_57, qhk_58, qhk_59, qhk_60, qhk_61, qhk_62, qhk_63, qhk_64, qhk_65, qhk_66, qhk_67, qhk_68, qhk_69, qhk_70, qhk_71, qhk_72, qhk_73, qhk_74, qhk_75, qhk_76, qhk_77, qhk_78, qhk_79, qhk_80, qhk_81, qhk_82, qhk_83, qhk_84, qhk_85, qhk_86, qhk_87, qhk_88, qhk_89, qhk_90, qhk_91, qhk_92, qhk_93, qhk_94, qhk_95, qhk_96, pp_0_0, pp_0_1, pp_0_2, pp_0_4, pp_0_5, pp_0_6, pp_0_7, pp_0_8, pp_0_9, pp_1_3, pp_1_4, pp_1_5, pp_1_6, pp_1_7, pp_1_8, pp_1_9, pp_7_1, pp_7_2, pp_7_3, pp_7_4, pp_12_1, pp_12_2, pp_12_3, pp_12_4, pp_17_3, pp_17_4, pp_17_5, pp_17_6, pp_17_7, pp_17_8, pp_17_9, pp_23_1, pp_23_2, pp_23_3, pp_23_4, pp_28_1, pp_28_2, pp_28_3, pp_28_4, pp_33_3, pp_33_4, pp_33_5, pp_33_6, pp_33_7, pp_33_8, pp_33_9, pp_39_1, pp_39_2, pp_39_3, pp_39_4, pp_44_1, pp_44_2, pp_44_3, pp_44_4, pp_49_0, pp_51_0, pp_53_0, pp_53_1, pp_53_2, pp_58_0, pp_58_1, pp_58_4, pp_58_5, pp_58_6, pp_58_7, pp_61_0, pp_61_1, pp_61_2, pp_65_0, pp_68_0, pp_71_0, pp_71_1, pp_71_2, pp_71_3, pp_71_4, pp_71_5, pp_71_6, pp_71_7, pp_71_8, pp_71_9, pp_71_10, pp_71_11, pp_71_12, pp_71_21, pp_71_22, pp_71_23, pp_71_24, pp_71_28, pp_71_32, pp_71_33, pp_71_34, pp_71_35, pp_71_36, pp_71_39, pp_71_40, hlt]
    | succ d ih =>
      intro f x J hd hx hJ hfn
      have e : (nI (d + 1) - 1 : Int32) = nI d := by
        have h : ∀ d : Fin 4, (nI (d.val + 1) - 1 : Int32) = nI d.val := by decide
        exact h ⟨d, by omega⟩
      have hp : ¬ nI d < 0 := nI_pos (by omega)
      have b1 : inB (nI d) 8 := inB_nI (by omega) (by omega)
      have d1 : (nI d).toNatClampNeg = d := nI_clamp (by omega)
      have e2 : nI d + -1 = nI d - 1 := (Int32.sub_eq_add_neg _ _).symm
      have hfd := hfn d (by omega)
      by_cases hc : f d + 1 < n
      · have hle : ¬ nI n ≤ nI (f d + 1) := nI_ge hc (by omega)
        refine ⟨u2 J 69 d (nI (f d + 1)), ?_, fun b hb => ?_, fun p hp2 => ?_⟩
        · rw [hx, e, a56_10]
          simp only [a56_0, a56_1, a56_4, a56_7, a56_8, a56_9, a56_11, a56_14, a56_15, a56_18, a56_21, a56_22, a56_23, a56_24, a56_25, a56_26, a56_27, a56_28, a56_31, a56_34, a56_35, a56_36, a56_37, a56_40, a56_41, a56_42, a56_45, a56_48, a56_49, a56_50, a56_51, a56_54, a56_57, qgR_some, qiaR_1, qlaR_2, qlnR_1, qlnR_2, qcpR_1, qcR_some, qpsh_v, qpsh_n, qcS_0, qcS_i, qcS_r, qcS_l, qst1_0_x, qst2_0_x, qst1_1_n, qst2_1_n, qst1_1_i, qst2_1_i, qst1_1_r, qst2_1_r, qst1_2_n, qst2_2_n, qst1_2_i, qst2_2_i, qst1_2_r, qst2_2_r, qst1_3_n, qst2_3_n, qst1_3_i, qst2_3_i, qst1_3_r, qst2_3_r, qst1_4_n, qst2_4_n, qst1_4_i, qst2_4_i, qst1_4_r, qst2_4_r, qst1_5_n, qst2_5_n, qst1_5_i, qst2_5_i, qst1_5_r, qst2_5_r, qst1_6_n, qst2_6_n, qst1_6_i, qst2_6_i, qst1_6_r, qst2_6_r, qst1_7_n, qst2_7_n, qst1_7_i, qst2_7_i, qst1_7_r, qst2_7_r, qst1_8_n, qst2_8_n, qst1_8_i, qst2_8_i, qst1_8_r, qst2_8_r, qst1_9_n, qst2_9_n, qst1_9_i, qst2_9_i, qst1_9_r, qst2_9_r, qst1_10_n, qst2_10_n, qst1_10_i, qst2_10_i, qst1_10_r, qst2_10_r, qst1_11_n, qst2_11_n, qst1_11_i, qst2_11_i, qst1_11_r, qst2_11_r, qswE_0, qswE_s, u2_row, z2_row, n32_0_1, n32_0_2, n32_0_3, n32_0_4, n32_0_5, n32_0_6, n32_0_7, n32_0_8, n32_1_0, n32_1_2, n32_1_3, n32_1_4, n32_1_5, n32_1_6, n32_1_7, n32_1_8, n32_2_0, n32_2_1, n32_2_3, n32_2_4, n32_2_5, n32_2_6, n32_2_7, n32_2_8, n32_3_0, n32_3_1, n32_3_2, n32_3_4, n32_3_5, n32_3_6, n32_3_7, n32_3_8, n32_4_0, n32_4_1, n32_4_2, n32_4_3, n32_4_5, n32_4_6, n32_4_7, n32_4_8, n32_5_0, n32_5_1, n32_5_2, n32_5_3, n32_5_4, n32_5_6, n32_5_7, n32_5_8, n32_6_0, n32_6_1, n32_6_2, n32_6_3, n32_6_4, n32_6_5, n32_6_7, n32_6_8, n32_7_0, n32_7_1, n32_7_2, n32_7_3, n32_7_4, n32_7_5, n32_7_6, n32_7_8, n32_8_0, n32_8_1, n32_8_2, n32_8_3, n32_8_4, n32_8_5, n32_8_6, n32_8_7, n32_m1_0, n32_m1_1, n32_m1_2, n32_m2_0, n32_m2_1, n32_m2_2, n32_m3_0, n32_m3_1, n32_m3_2, n32_m4_0, n32_m4_1, n32_m4_2, n32_m6_0, n32_m6_1, n32_m6_2, n32_m9_0, n32_m9_1, n32_m9_2, true_or, or_true, if_true, if_false, eq_self, and_true, true_and, and_self, reduceCtorEq, not_true_eq_false, not_false_eq_true, or_self, false_or, or_false, false_and, and_false, Option.some.injEq, Prod.mk.injEq, Nat.reduceAdd, Nat.reduceMul, Nat.reduceSub, Nat.reduceLT, Nat.reduceEqDiff, Nat.reduceLeDiff, Int32.reduceAdd, Int32.reduceMul, Int32.reduceSub, Int32.reduceLT, Int32.reduceLE, Int32.reduceOfNat, Int32.reduceToNatClampNeg, reduceIte, Nat.zero_le, Nat.reduceDiv, qhk_0, qhk_1, qhk_2, qhk_3, qhk_4, qhk_5, qhk_6, qhk_7, qhk_8, qhk_9, qhk_10, qhk_11, qhk_12, qhk_13, qhk_14, qhk_15, qhk_16, qhk_17, qhk_18, qhk_19, qhk_20, qhk_21, qhk_22, qhk_23, qhk_24, qhk_25, qhk_26, qhk_27, qhk_28, qhk_29, qhk_30, qhk_31, qhk_32, qhk_33, qhk_34, qhk_35, qhk_36, qhk_37, qhk_38, qhk_39, qhk_40, qhk_41, qhk_42, qhk_43, qhk_44, qhk_45, qhk_46, qhk_47, qhk_48, qhk_49, qhk_50, qhk_51, qhk_52, qhk_53, qhk_54, qhk_55, qhk_56, qhk_57, qhk_58, qhk_59, qhk_60, qhk_61, qhk_62, qhk_63, qhk_64, qhk_65, qhk_66, qhk_67, qhk_68, qhk_69, qhk_70, qhk_71, qhk_72, qhk_73, qhk_74, qhk_75, qhk_76, qhk_77, qhk_78, qhk_79, qhk_80, qhk_81, qhk_82, qhk_83, qhk_84, qhk_85, qhk_86, qhk_87, qhk_88, qhk_89, qhk_90, qhk_91, qhk_92, qhk_93, qhk_94, qhk_95, qhk_96, pp_0_0, pp_0_1, pp_0_2, pp_0_4, pp_0_5, pp_0_6, pp_0_7, pp_0_8, pp_0_9, pp_1_3, pp_1_4, pp_1_5, pp_1_6, pp_1_7, pp_1_8, pp_1_9, pp_7_1, pp_7_2, pp_7_3, pp_7_4, pp_12_1, pp_12_2, pp_12_3, pp_12_4, pp_17_3, pp_17_4, pp_17_5, pp_17_6, pp_17_7, pp_17_8, pp_17_9, pp_23_1, pp_23_2, pp_23_3, pp_23_4, pp_28_1, pp_28_2, pp_28_3, pp_28_4, pp_33_3, pp_33_4, pp_33_5, pp_33_6, pp_33_7, pp_33_8, pp_33_9, pp_39_1, pp_39_2, pp_39_3, pp_39_4, pp_44_1, pp_44_2, pp_44_3, pp_44_4, pp_49_0, pp_51_0, pp_53_0, pp_53_1, pp_53_2, pp_58_0, pp_58_1, pp_58_4, pp_58_5, pp_58_6, pp_58_7, pp_61_0, pp_61_1, pp_61_2, pp_65_0, pp_68_0, pp_71_0, pp_71_1, pp_71_2, pp_71_3, pp_71_4, pp_71_5, pp_71_6, pp_71_7, pp_71_8, pp_71_9, pp_71_10, pp_71_11, pp_71_12, pp_71_21, pp_71_22, pp_71_23, pp_71_24, pp_71_28, pp_71_32, pp_71_33, pp_71_34, pp_71_35, pp_71_36, pp_71_39, pp_71_40, hp, b1, d1, hJ d (by omega), nI_1, hle]
        · funext y; simp only [u2_row, if_neg hb]
        · have et : tur n (d + 1) f = fun p => if p = d then f d + 1 else f p := by
            show (if f d + 1 < n then _ else _) = _
            rw [if_pos hc]
          rw [et]
          simp only [u2_row, reduceIte]
          split
          · rfl
          · exact hJ p hp2
      · have hle : nI n ≤ nI (f d + 1) := nI_le (by omega) (by omega)
        obtain ⟨K, k1, k2, k3⟩ := ih (fun p => if p = d then 0 else f p) (nI d + -1) (u2 (u2 J 69 d (nI (f d + 1))) 69 d 0) (by omega) e2 (fun p hp2 => by
          simp only [u2_row, reduceIte]
          split
          · rfl
          · exact hJ p hp2) (fun p hp2 => by rw [if_neg (by omega)]; exact hfn p (by omega))
        refine ⟨K, ?_, fun b hb => ?_, fun p hp2 => ?_⟩
        · rw [← k1, hx, e, a56_10]
          simp only [a56_0, a56_1, a56_4, a56_7, a56_8, a56_9, a56_11, a56_14, a56_15, a56_18, a56_21, a56_22, a56_23, a56_24, a56_25, a56_26, a56_27, a56_28, a56_31, a56_34, a56_35, a56_36, a56_37, a56_40, a56_41, a56_42, a56_45, a56_48, a56_49, a56_50, a56_51, a56_54, a56_57, qgR_some, qiaR_1, qlaR_2, qlnR_1, qlnR_2, qcpR_1, qcR_some, qpsh_v, qpsh_n, qcS_0, qcS_i, qcS_r, qcS_l, qst1_0_x, qst2_0_x, qst1_1_n, qst2_1_n, qst1_1_i, qst2_1_i, qst1_1_r, qst2_1_r, qst1_2_n, qst2_2_n, qst1_2_i, qst2_2_i, qst1_2_r, qst2_2_r, qst1_3_n, qst2_3_n, qst1_3_i, qst2_3_i, qst1_3_r, qst2_3_r, qst1_4_n, qst2_4_n, qst1_4_i, qst2_4_i, qst1_4_r, qst2_4_r, qst1_5_n, qst2_5_n, qst1_5_i, qst2_5_i, qst1_5_r, qst2_5_r, qst1_6_n, qst2_6_n, qst1_6_i, qst2_6_i, qst1_6_r, qst2_6_r, qst1_7_n, qst2_7_n, qst1_7_i, qst2_7_i, qst1_7_r, qst2_7_r, qst1_8_n, qst2_8_n, qst1_8_i, qst2_8_i, qst1_8_r, qst2_8_r, qst1_9_n, qst2_9_n, qst1_9_i, qst2_9_i, qst1_9_r, qst2_9_r, qst1_10_n, qst2_10_n, qst1_10_i, qst2_10_i, qst1_10_r, qst2_10_r, qst1_11_n, qst2_11_n, qst1_11_i, qst2_11_i, qst1_11_r, qst2_11_r, qswE_0, qswE_s, u2_row, z2_row, n32_0_1, n32_0_2, n32_0_3, n32_0_4, n32_0_5, n32_0_6, n32_0_7, n32_0_8, n32_1_0, n32_1_2, n32_1_3, n32_1_4, n32_1_5, n32_1_6, n32_1_7, n32_1_8, n32_2_0, n32_2_1, n32_2_3, n32_2_4, n32_2_5, n32_2_6, n32_2_7, n32_2_8, n32_3_0, n32_3_1, n32_3_2, n32_3_4, n32_3_5, n32_3_6, n32_3_7, n32_3_8, n32_4_0, n32_4_1, n32_4_2, n32_4_3, n32_4_5, n32_4_6, n32_4_7, n32_4_8, n32_5_0, n32_5_1, n32_5_2, n32_5_3, n32_5_4, n32_5_6, n32_5_7, n32_5_8, n32_6_0, n32_6_1, n32_6_2, n32_6_3, n32_6_4, n32_6_5, n32_6_7, n32_6_8, n32_7_0, n32_7_1, n32_7_2, n32_7_3, n32_7_4, n32_7_5, n32_7_6, n32_7_8, n32_8_0, n32_8_1, n32_8_2, n32_8_3, n32_8_4, n32_8_5, n32_8_6, n32_8_7, n32_m1_0, n32_m1_1, n32_m1_2, n32_m2_0, n32_m2_1, n32_m2_2, n32_m3_0, n32_m3_1, n32_m3_2, n32_m4_0, n32_m4_1, n32_m4_2, n32_m6_0, n32_m6_1, n32_m6_2, n32_m9_0, n32_m9_1, n32_m9_2, true_or, or_true, if_true, if_false, eq_self, and_true, true_and, and_self, reduceCtorEq, not_true_eq_false, not_false_eq_true, or_self, false_or, or_false, false_and, and_false, Option.some.injEq, Prod.mk.injEq, Nat.reduceAdd, Nat.reduceMul, Nat.reduceSub, Nat.reduceLT, Nat.reduceEqDiff, Nat.reduceLeDiff, Int32.reduceAdd, Int32.reduceMul, Int32.reduceSub, Int32.reduceLT, Int32.reduceLE, Int32.reduceOfNat, Int32.reduceToNatClampNeg, reduceIte, Nat.zero_le, Nat.reduceDiv, qhk_0, qhk_1, qhk_2, qhk_3, qhk_4, qhk_5, qhk_6, qhk_7, qhk_8, qhk_9, qhk_10, qhk_11, qhk_12, qhk_13, qhk_14, qhk_15, qhk_16, qhk_17, qhk_18, qhk_19, qhk_20, qhk_21, qhk_22, qhk_23, qhk_24, qhk_25, qhk_26, qhk_27, qhk_28, qhk_29, qhk_30, qhk_31, qhk_32, qhk_33, qhk_34, qhk_35, qhk_36, qhk_37, qhk_38, qhk_39, qhk_40, qhk_41, qhk_42, qhk_43, qhk_44, qhk_45, qhk_46, qhk_47, qhk_48, qhk_49, qhk_50, qhk_51, qhk_52, qhk_53, qhk_54, qhk_55, qhk_56, qhk_57, qhk_58, qhk_59, qhk_60, qhk_61, qhk_62, qhk_63, qhk_64, qhk_65, qhk_66, qhk_67, qhk_68, qhk_69, qhk_70, qhk_71, qhk_72, qhk_73, qhk_74, qhk_75, qhk_76, qhk_77, qhk_78, qhk_79, qhk_80, qhk_81, qhk_82, qhk_83, qhk_84, qhk_85, qhk_86, qhk_87, qhk_88, qhk_89, qhk_90, qhk_91, qhk_92, qhk_93, qhk_94, qhk_95, qhk_96, pp_0_0, pp_0_1, pp_0_2, pp_0_4, pp_0_5, pp_0_6, pp_0_7, pp_0_8, pp_0_9, pp_1_3, pp_1_4, pp_1_5, pp_1_6, pp_1_7, pp_1_8, pp_1_9, pp_7_1, pp_7_2, pp_7_3, pp_7_4, pp_12_1, pp_12_2, pp_12_3, pp_12_4, pp_17_3, pp_17_4, pp_17_5, pp_17_6, pp_17_7, pp_17_8, pp_17_9, pp_23_1, pp_23_2, pp_23_3, pp_23_4, pp_28_1, pp_28_2, pp_28_3, pp_28_4, pp_33_3, pp_33_4, pp_33_5, pp_33_6, pp_33_7, pp_33_8, pp_33_9, pp_39_1, pp_39_2, pp_39_3, pp_39_4, pp_44_1, pp_44_2, pp_44_3, pp_44_4, pp_49_0, pp_51_0, pp_53_0, pp_53_1, pp_53_2, pp_58_0, pp_58_1, pp_58_4, pp_58_5, pp_58_6, pp_58_7, pp_61_0, pp_61_1, pp_61_2, pp_65_0, pp_68_0, pp_71_0, pp_71_1, pp_71_2, pp_71_3, pp_71_4, pp_71_5, pp_71_6, pp_71_7, pp_71_8, pp_71_9, pp_71_10, pp_71_11, pp_71_12, pp_71_21, pp_71_22, pp_71_23, pp_71_24, pp_71_28, pp_71_32, pp_71_33, pp_71_34, pp_71_35, pp_71_36, pp_71_39, pp_71_40, hp, b1, d1, hJ d (by omega), nI_1, hle]
        · rw [k2 b hb]; funext y; simp only [u2_row, if_neg hb]
        · have et : tur n (d + 1) f = tur n d (fun p => if p = d then 0 else f p) := by
            show (if f d + 1 < n then _ else _) = _
            rw [if_neg hc]
          rw [et]
          exact k3 p hp2
  obtain ⟨K, k1, k2, k3⟩ := key k f _ J (Nat.le_refl k) rfl (fun p hp => (hf p hp).1) (fun p hp => (hf p hp).2)
  refine ⟨K, ?_, k2, k3⟩
  simp only [e56, a56_0, a56_1, a56_4, a56_7, a56_8, a56_9, a56_11, a56_14, a56_15, a56_18, a56_21, a56_22, a56_23, a56_24, a56_25, a56_26, a56_27, a56_28, a56_31, a56_34, a56_35, a56_36, a56_37, a56_40, a56_41, a56_42, a56_45, a56_48, a56_49, a56_50, a56_51, a56_54, a56_57, qgR_some, qiaR_1, qlaR_2, qlnR_1, qlnR_2, qcpR_1, qcR_some, qpsh_v, qpsh_n, qcS_0, qcS_i, qcS_r, qcS_l, qst1_0_x, qst2_0_x, qst1_1_n, qst2_1_n, qst1_1_i, qst2_1_i, qst1_1_r, qst2_1_r, qst1_2_n, qst2_2_n, qst1_2_i, qst2_2_i, qst1_2_r, qst2_2_r, qst1_3_n, qst2_3_n, qst1_3_i, qst2_3_i, qst1_3_r, qst2_3_r, qst1_4_n, qst2_4_n, qst1_4_i, qst2_4_i, qst1_4_r, qst2_4_r, qst1_5_n, qst2_5_n, qst1_5_i, qst2_5_i, qst1_5_r, qst2_5_r, qst1_6_n, qst2_6_n, qst1_6_i, qst2_6_i, qst1_6_r, qst2_6_r, qst1_7_n, qst2_7_n, qst1_7_i, qst2_7_i, qst1_7_r, qst2_7_r, qst1_8_n, qst2_8_n, qst1_8_i, qst2_8_i, qst1_8_r, qst2_8_r, qst1_9_n, qst2_9_n, qst1_9_i, qst2_9_i, qst1_9_r, qst2_9_r, qst1_10_n, qst2_10_n, qst1_10_i, qst2_10_i, qst1_10_r, qst2_10_r, qst1_11_n, qst2_11_n, qst1_11_i, qst2_11_i, qst1_11_r, qst2_11_r, qswE_0, qswE_s, u2_row, z2_row, n32_0_1, n32_0_2, n32_0_3, n32_0_4, n32_0_5, n32_0_6, n32_0_7, n32_0_8, n32_1_0, n32_1_2, n32_1_3, n32_1_4, n32_1_5, n32_1_6, n32_1_7, n32_1_8, n32_2_0, n32_2_1, n32_2_3, n32_2_4, n32_2_5, n32_2_6, n32_2_7, n32_2_8, n32_3_0, n32_3_1, n32_3_2, n32_3_4, n32_3_5, n32_3_6, n32_3_7, n32_3_8, n32_4_0, n32_4_1, n32_4_2, n32_4_3, n32_4_5, n32_4_6, n32_4_7, n32_4_8, n32_5_0, n32_5_1, n32_5_2, n32_5_3, n32_5_4, n32_5_6, n32_5_7, n32_5_8, n32_6_0, n32_6_1, n32_6_2, n32_6_3, n32_6_4, n32_6_5, n32_6_7, n32_6_8, n32_7_0, n32_7_1, n32_7_2, n32_7_3, n32_7_4, n32_7_5, n32_7_6, n32_7_8, n32_8_0, n32_8_1, n32_8_2, n32_8_3, n32_8_4, n32_8_5, n32_8_6, n32_8_7, n32_m1_0, n32_m1_1, n32_m1_2, n32_m2_0, n32_m2_1, n32_m2_2, n32_m3_0, n32_m3_1, n32_m3_2, n32_m4_0, n32_m4_1, n32_m4_2, n32_m6_0, n32_m6_1, n32_m6_2, n32_m9_0, n32_m9_1, n32_m9_2, true_or, or_true, if_true, if_false, eq_self, and_true, true_and, and_self, reduceCtorEq, not_true_eq_false, not_false_eq_true, or_self, false_or, or_false, false_and, and_false, Option.some.injEq, Prod.mk.injEq, Nat.reduceAdd, Nat.reduceMul, Nat.reduceSub, Nat.reduceLT, Nat.reduceEqDiff, Nat.reduceLeDiff, Int32.reduceAdd, Int32.reduceMul, Int32.reduceSub, Int32.reduceLT, Int32.reduceLE, Int32.reduceOfNat, Int32.reduceToNatClampNeg, reduceIte, Nat.zero_le, Nat.reduceDiv, qhk_0, qhk_1, qhk_2, qhk_3, qhk_4, qhk_5, qhk_6, qhk_7, qhk_8, qhk_9, qhk_10, qhk_11, qhk_12, qhk_13, qhk_14, qhk_15, qhk_16, qhk_17, qhk_18, qhk_19, qhk_20, qhk_21, qhk_22, qhk_23, qhk_24, qhk_25, qhk_26, qhk_27, qhk_28, qhk_29, qhk_30, qhk_31, qhk_32, qhk_33, qhk_34, qhk_35, qhk_36, qhk_37, qhk_38, qhk_39, qhk_40, qhk_41, qhk_42, qhk_43, qhk_44, qhk_45, qhk_46, qhk_47, qhk_48, qhk_49, qhk_50, qhk_51, qhk_52, qhk_53, qhk_54, qhk_55, qhk_56, qhk_57, qhk_58, qhk_59, qhk_60, qhk_61, qhk_62, qhk_63, qhk_64, qhk_65, qhk_66, qhk_67, qhk_68, qhk_69, qhk_70, qhk_71, qhk_72, qhk_73, qhk_74, qhk_75, qhk_76, qhk_77, qhk_78, qhk_79, qhk_80, qhk_81, qhk_82, qhk_83, qhk_84, qhk_85, qhk_86, qhk_87, qhk_88, qhk_89, qhk_90, qhk_91, qhk_92, qhk_93, qhk_94, qhk_95, qhk_96, pp_0_0, pp_0_1, pp_0_2, pp_0_4, pp_0_5, pp_0_6, pp_0_7, pp_0_8, pp_0_9, pp_1_3, pp_1_4, pp_1_5, pp_1_6, pp_1_7, pp_1_8, pp_1_9, pp_7_1, pp_7_2, pp_7_3, pp_7_4, pp_12_1, pp_12_2, pp_12_3, pp_12_4, pp_17_3, pp_17_4, pp_17_5, pp_17_6, pp_17_7, pp_17_8, pp_17_9, pp_23_1, pp_23_2, pp_23_3, pp_23_4, pp_28_1, pp_28_2, pp_28_3, pp_28_4, pp_33_3, pp_33_4, pp_33_5, pp_33_6, pp_33_7, pp_33_8, pp_33_9, pp_39_1, pp_39_2, pp_39_3, pp_39_4, pp_44_1, pp_44_2, pp_44_3, pp_44_4, pp_49_0, pp_51_0, pp_53_0, pp_53_1, pp_53_2, pp_58_0, pp_58_1, pp_58_4, pp_58_5, pp_58_6, pp_58_7, pp_61_0, pp_61_1, pp_61_2, pp_65_0, pp_68_0, pp_71_0, pp_71_1, pp_71_2, pp_71_3, pp_71_4, pp_71_5, pp_71_6, pp_71_7, pp_71_8, pp_71_9, pp_71_10, pp_71_11, pp_71_12, pp_71_21, pp_71_22, pp_71_23, pp_71_24, pp_71_28, pp_71_32, pp_71_33, pp_71_34, pp_71_35, pp_71_36, pp_71_39, pp_71_40, h1]
  exact k1
end
