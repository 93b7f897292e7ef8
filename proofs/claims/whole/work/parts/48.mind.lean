/-! reading what the reference put away and took back (printed by wip/whole/gen12.py) -/
theorem sv0_off {I : Nat → Nat → Int32} {b : Nat} (h1 : b ≠ 71) (h2 : b ≠ 89) : sv0 I b = I b := by
  unfold sv0
  simp (disch := assumption) only [ko_off, kp_off]
  funext j
  simp only [u2_row, if_neg h1]
theorem sv0_71 {I : Nat → Nat → Int32} {j : Nat} (h1 : j ≠ 30) (h2 : j ≠ 31) : sv0 I 71 j = I 71 j := by
  unfold sv0
  simp (disch := assumption) only [ko_71, kp_71]
  simp only [u2_row, reduceIte, if_neg h1, if_neg h2]
theorem sv0_else {I : Nat → Nat → Int32} {q : Nat} (h : q < 0 ∨ 104 ≤ q) : sv0 I 89 q = I 89 q := by
  unfold sv0
  simp (disch := omega) only [ko_out, kp_out]
  simp only [u2_row, Nat.reduceEqDiff, reduceIte]
theorem sv0_73 {I : Nat → Nat → Int32} {j : Nat} (h : j < 5) : sv0 I 89 (0 + j) = I 73 j := by
  unfold sv0
  simp (disch := omega) only [ko_out, kp_out, kp_in, kp_off]
  simp only [u2_row, Nat.reduceEqDiff, reduceIte, Nat.add_sub_cancel_left]
theorem sv0_74 {I : Nat → Nat → Int32} {j : Nat} (h : j < 5) : sv0 I 89 (5 + j) = I 74 j := by
  unfold sv0
  simp (disch := omega) only [ko_out, kp_out, kp_in, kp_off]
  simp only [u2_row, Nat.reduceEqDiff, reduceIte, Nat.add_sub_cancel_left]
theorem sv0_75 {I : Nat → Nat → Int32} {j : Nat} (h : j < 25) : sv0 I 89 (10 + j) = I 75 j := by
  unfold sv0
  simp (disch := omega) only [ko_out, kp_out, kp_in, kp_off]
  simp only [u2_row, Nat.reduceEqDiff, reduceIte, Nat.add_sub_cancel_left]
theorem sv0_76 {I : Nat → Nat → Int32} {j : Nat} (h : j < 25) : sv0 I 89 (35 + j) = I 76 j := by
  unfold sv0
  simp (disch := omega) only [ko_out, kp_out, kp_in, kp_off]
  simp only [u2_row, Nat.reduceEqDiff, reduceIte, Nat.add_sub_cancel_left]
theorem sv0_77 {I : Nat → Nat → Int32} {j : Nat} (h : j < 5) : sv0 I 89 (60 + j) = I 77 j := by
  unfold sv0
  simp (disch := omega) only [ko_out, kp_out, kp_in, kp_off]
  simp only [u2_row, Nat.reduceEqDiff, reduceIte, Nat.add_sub_cancel_left]
theorem sv0_78 {I : Nat → Nat → Int32} {j : Nat} (h : j < 5) : sv0 I 89 (65 + j) = I 78 j := by
  unfold sv0
  simp (disch := omega) only [ko_out, kp_out, kp_in, kp_off]
  simp only [u2_row, Nat.reduceEqDiff, reduceIte, Nat.add_sub_cancel_left]
theorem sv0_79 {I : Nat → Nat → Int32} {j : Nat} (h : j < 5) : sv0 I 89 (70 + j) = I 79 j := by
  unfold sv0
  simp (disch := omega) only [ko_out, kp_out, kp_in, kp_off]
  simp only [u2_row, Nat.reduceEqDiff, reduceIte, Nat.add_sub_cancel_left]
theorem sv0_80 {I : Nat → Nat → Int32} {j : Nat} (h : j < 5) : sv0 I 89 (75 + j) = I 80 j := by
  unfold sv0
  simp (disch := omega) only [ko_out, kp_out, kp_in, kp_off]
  simp only [u2_row, Nat.reduceEqDiff, reduceIte, Nat.add_sub_cancel_left]
theorem sv0_81 {I : Nat → Nat → Int32} {j : Nat} (h : j < 4) : sv0 I 89 (80 + j) = I 81 j := by
  unfold sv0
  simp (disch := omega) only [ko_out, kp_out, kp_in, kp_off]
  simp only [u2_row, Nat.reduceEqDiff, reduceIte, Nat.add_sub_cancel_left]
theorem sv0_82 {I : Nat → Nat → Int32} {j : Nat} (h : j < 4) : sv0 I 89 (84 + j) = I 82 j := by
  unfold sv0
  simp (disch := omega) only [ko_out, kp_out, kp_in, kp_off]
  simp only [u2_row, Nat.reduceEqDiff, reduceIte, Nat.add_sub_cancel_left]
theorem sv0_83 {I : Nat → Nat → Int32} {j : Nat} (h : j < 4) : sv0 I 89 (88 + j) = I 83 j := by
  unfold sv0
  simp (disch := omega) only [ko_out, kp_out, kp_in, kp_off]
  simp only [u2_row, Nat.reduceEqDiff, reduceIte, Nat.add_sub_cancel_left]
theorem sv0_84 {I : Nat → Nat → Int32} {j : Nat} (h : j < 4) : sv0 I 89 (92 + j) = I 84 j := by
  unfold sv0
  simp (disch := omega) only [ko_out, kp_out, kp_in, kp_off]
  simp only [u2_row, Nat.reduceEqDiff, reduceIte, Nat.add_sub_cancel_left]
theorem sv0_f13 {I : Nat → Nat → Int32} : sv0 I 89 96 = I 71 13 := by
  unfold sv0
  simp (disch := omega) only [ko_out, ko_in, ko_71, kp_71]
  simp only [u2_row, Nat.reduceEqDiff, reduceIte]
theorem sv0_f14 {I : Nat → Nat → Int32} : sv0 I 89 97 = I 71 14 := by
  unfold sv0
  simp (disch := omega) only [ko_out, ko_in, ko_71, kp_71]
  simp only [u2_row, Nat.reduceEqDiff, reduceIte]
theorem sv0_f15 {I : Nat → Nat → Int32} : sv0 I 89 98 = I 71 15 := by
  unfold sv0
  simp (disch := omega) only [ko_out, ko_in, ko_71, kp_71]
  simp only [u2_row, Nat.reduceEqDiff, reduceIte]
theorem sv0_f16 {I : Nat → Nat → Int32} : sv0 I 89 99 = I 71 16 := by
  unfold sv0
  simp (disch := omega) only [ko_out, ko_in, ko_71, kp_71]
  simp only [u2_row, Nat.reduceEqDiff, reduceIte]
theorem sv0_f17 {I : Nat → Nat → Int32} : sv0 I 89 100 = I 71 17 := by
  unfold sv0
  simp (disch := omega) only [ko_out, ko_in, ko_71, kp_71]
  simp only [u2_row, Nat.reduceEqDiff, reduceIte]
theorem sv0_f18 {I : Nat → Nat → Int32} : sv0 I 89 101 = I 71 18 := by
  unfold sv0
  simp (disch := omega) only [ko_out, ko_in, ko_71, kp_71]
  simp only [u2_row, Nat.reduceEqDiff, reduceIte]
theorem sv0_f19 {I : Nat → Nat → Int32} : sv0 I 89 102 = I 71 19 := by
  unfold sv0
  simp (disch := omega) only [ko_out, ko_in, ko_71, kp_71]
  simp only [u2_row, Nat.reduceEqDiff, reduceIte]
theorem sv0_f20 {I : Nat → Nat → Int32} : sv0 I 89 103 = I 71 20 := by
  unfold sv0
  simp (disch := omega) only [ko_out, ko_in, ko_71, kp_71]
  simp only [u2_row, Nat.reduceEqDiff, reduceIte]
theorem tk0_off {I : Nat → Nat → Int32} {b : Nat} (h1 : b ≠ 71) (h2 : b < 73 ∨ 84 < b) : tk0 I b = I b := by
  unfold tk0
  simp (disch := omega) only [ro_off, rs_off]
  funext j
  simp only [u2_row, if_neg h1]
theorem tk0_71 {I : Nat → Nat → Int32} {j : Nat} (h1 : j ≠ 30) (h2 : j ≠ 31) (h3 : j < 13 ∨ 20 < j) : tk0 I 71 j = I 71 j := by
  unfold tk0
  simp (disch := omega) only [ro_71, rs_71]
  simp only [u2_row, reduceIte, if_neg h1, if_neg h2]
theorem tk0_73 {I : Nat → Nat → Int32} {j : Nat} : tk0 I 73 j = if j < 5 then I 89 (0 + j) else I 73 j := by
  unfold tk0
  simp (disch := omega) only [ro_off, rs_off, rs_b]
  simp only [u2_row, Nat.reduceEqDiff, reduceIte]
theorem tk0_74 {I : Nat → Nat → Int32} {j : Nat} : tk0 I 74 j = if j < 5 then I 89 (5 + j) else I 74 j := by
  unfold tk0
  simp (disch := omega) only [ro_off, rs_off, rs_b]
  simp only [u2_row, Nat.reduceEqDiff, reduceIte]
theorem tk0_75 {I : Nat → Nat → Int32} {j : Nat} : tk0 I 75 j = if j < 25 then I 89 (10 + j) else I 75 j := by
  unfold tk0
  simp (disch := omega) only [ro_off, rs_off, rs_b]
  simp only [u2_row, Nat.reduceEqDiff, reduceIte]
theorem tk0_76 {I : Nat → Nat → Int32} {j : Nat} : tk0 I 76 j = if j < 25 then I 89 (35 + j) else I 76 j := by
  unfold tk0
  simp (disch := omega) only [ro_off, rs_off, rs_b]
  simp only [u2_row, Nat.reduceEqDiff, reduceIte]
theorem tk0_77 {I : Nat → Nat → Int32} {j : Nat} : tk0 I 77 j = if j < 5 then I 89 (60 + j) else I 77 j := by
  unfold tk0
  simp (disch := omega) only [ro_off, rs_off, rs_b]
  simp only [u2_row, Nat.reduceEqDiff, reduceIte]
theorem tk0_78 {I : Nat → Nat → Int32} {j : Nat} : tk0 I 78 j = if j < 5 then I 89 (65 + j) else I 78 j := by
  unfold tk0
  simp (disch := omega) only [ro_off, rs_off, rs_b]
  simp only [u2_row, Nat.reduceEqDiff, reduceIte]
theorem tk0_79 {I : Nat → Nat → Int32} {j : Nat} : tk0 I 79 j = if j < 5 then I 89 (70 + j) else I 79 j := by
  unfold tk0
  simp (disch := omega) only [ro_off, rs_off, rs_b]
  simp only [u2_row, Nat.reduceEqDiff, reduceIte]
theorem tk0_80 {I : Nat → Nat → Int32} {j : Nat} : tk0 I 80 j = if j < 5 then I 89 (75 + j) else I 80 j := by
  unfold tk0
  simp (disch := omega) only [ro_off, rs_off, rs_b]
  simp only [u2_row, Nat.reduceEqDiff, reduceIte]
theorem tk0_81 {I : Nat → Nat → Int32} {j : Nat} : tk0 I 81 j = if j < 4 then I 89 (80 + j) else I 81 j := by
  unfold tk0
  simp (disch := omega) only [ro_off, rs_off, rs_b]
  simp only [u2_row, Nat.reduceEqDiff, reduceIte]
theorem tk0_82 {I : Nat → Nat → Int32} {j : Nat} : tk0 I 82 j = if j < 4 then I 89 (84 + j) else I 82 j := by
  unfold tk0
  simp (disch := omega) only [ro_off, rs_off, rs_b]
  simp only [u2_row, Nat.reduceEqDiff, reduceIte]
theorem tk0_83 {I : Nat → Nat → Int32} {j : Nat} : tk0 I 83 j = if j < 4 then I 89 (88 + j) else I 83 j := by
  unfold tk0
  simp (disch := omega) only [ro_off, rs_off, rs_b]
  simp only [u2_row, Nat.reduceEqDiff, reduceIte]
theorem tk0_84 {I : Nat → Nat → Int32} {j : Nat} : tk0 I 84 j = if j < 4 then I 89 (92 + j) else I 84 j := by
  unfold tk0
  simp (disch := omega) only [ro_off, rs_off, rs_b]
  simp only [u2_row, Nat.reduceEqDiff, reduceIte]
theorem tk0_f13 {I : Nat → Nat → Int32} : tk0 I 71 13 = I 89 96 := by
  unfold tk0
  simp (disch := omega) only [ro_71, ro_f, ro_off, rs_off]
  simp only [u2_row, Nat.reduceEqDiff, reduceIte]
theorem tk0_f14 {I : Nat → Nat → Int32} : tk0 I 71 14 = I 89 97 := by
  unfold tk0
  simp (disch := omega) only [ro_71, ro_f, ro_off, rs_off]
  simp only [u2_row, Nat.reduceEqDiff, reduceIte]
theorem tk0_f15 {I : Nat → Nat → Int32} : tk0 I 71 15 = I 89 98 := by
  unfold tk0
  simp (disch := omega) only [ro_71, ro_f, ro_off, rs_off]
  simp only [u2_row, Nat.reduceEqDiff, reduceIte]
theorem tk0_f16 {I : Nat → Nat → Int32} : tk0 I 71 16 = I 89 99 := by
  unfold tk0
  simp (disch := omega) only [ro_71, ro_f, ro_off, rs_off]
  simp only [u2_row, Nat.reduceEqDiff, reduceIte]
theorem tk0_f17 {I : Nat → Nat → Int32} : tk0 I 71 17 = I 89 100 := by
  unfold tk0
  simp (disch := omega) only [ro_71, ro_f, ro_off, rs_off]
  simp only [u2_row, Nat.reduceEqDiff, reduceIte]
theorem tk0_f18 {I : Nat → Nat → Int32} : tk0 I 71 18 = I 89 101 := by
  unfold tk0
  simp (disch := omega) only [ro_71, ro_f, ro_off, rs_off]
  simp only [u2_row, Nat.reduceEqDiff, reduceIte]
theorem tk0_f19 {I : Nat → Nat → Int32} : tk0 I 71 19 = I 89 102 := by
  unfold tk0
  simp (disch := omega) only [ro_71, ro_f, ro_off, rs_off]
  simp only [u2_row, Nat.reduceEqDiff, reduceIte]
theorem tk0_f20 {I : Nat → Nat → Int32} : tk0 I 71 20 = I 89 103 := by
  unfold tk0
  simp (disch := omega) only [ro_71, ro_f, ro_off, rs_off]
  simp only [u2_row, Nat.reduceEqDiff, reduceIte]
theorem sv1_off {I : Nat → Nat → Int32} {b : Nat} (h1 : b ≠ 71) (h2 : b ≠ 89) : sv1 I b = I b := by
  unfold sv1
  simp (disch := assumption) only [ko_off, kp_off]
  funext j
  simp only [u2_row, if_neg h1]
theorem sv1_71 {I : Nat → Nat → Int32} {j : Nat} (h1 : j ≠ 30) (h2 : j ≠ 31) : sv1 I 71 j = I 71 j := by
  unfold sv1
  simp (disch := assumption) only [ko_71, kp_71]
  simp only [u2_row, reduceIte, if_neg h1, if_neg h2]
theorem sv1_else {I : Nat → Nat → Int32} {q : Nat} (h : q < 120 ∨ 224 ≤ q) : sv1 I 89 q = I 89 q := by
  unfold sv1
  simp (disch := omega) only [ko_out, kp_out]
  simp only [u2_row, Nat.reduceEqDiff, reduceIte]
theorem sv1_73 {I : Nat → Nat → Int32} {j : Nat} (h : j < 5) : sv1 I 89 (120 + j) = I 73 j := by
  unfold sv1
  simp (disch := omega) only [ko_out, kp_out, kp_in, kp_off]
  simp only [u2_row, Nat.reduceEqDiff, reduceIte, Nat.add_sub_cancel_left]
theorem sv1_74 {I : Nat → Nat → Int32} {j : Nat} (h : j < 5) : sv1 I 89 (125 + j) = I 74 j := by
  unfold sv1
  simp (disch := omega) only [ko_out, kp_out, kp_in, kp_off]
  simp only [u2_row, Nat.reduceEqDiff, reduceIte, Nat.add_sub_cancel_left]
theorem sv1_75 {I : Nat → Nat → Int32} {j : Nat} (h : j < 25) : sv1 I 89 (130 + j) = I 75 j := by
  unfold sv1
  simp (disch := omega) only [ko_out, kp_out, kp_in, kp_off]
  simp only [u2_row, Nat.reduceEqDiff, reduceIte, Nat.add_sub_cancel_left]
theorem sv1_76 {I : Nat → Nat → Int32} {j : Nat} (h : j < 25) : sv1 I 89 (155 + j) = I 76 j := by
  unfold sv1
  simp (disch := omega) only [ko_out, kp_out, kp_in, kp_off]
  simp only [u2_row, Nat.reduceEqDiff, reduceIte, Nat.add_sub_cancel_left]
theorem sv1_77 {I : Nat → Nat → Int32} {j : Nat} (h : j < 5) : sv1 I 89 (180 + j) = I 77 j := by
  unfold sv1
  simp (disch := omega) only [ko_out, kp_out, kp_in, kp_off]
  simp only [u2_row, Nat.reduceEqDiff, reduceIte, Nat.add_sub_cancel_left]
theorem sv1_78 {I : Nat → Nat → Int32} {j : Nat} (h : j < 5) : sv1 I 89 (185 + j) = I 78 j := by
  unfold sv1
  simp (disch := omega) only [ko_out, kp_out, kp_in, kp_off]
  simp only [u2_row, Nat.reduceEqDiff, reduceIte, Nat.add_sub_cancel_left]
theorem sv1_79 {I : Nat → Nat → Int32} {j : Nat} (h : j < 5) : sv1 I 89 (190 + j) = I 79 j := by
  unfold sv1
  simp (disch := omega) only [ko_out, kp_out, kp_in, kp_off]
  simp only [u2_row, Nat.reduceEqDiff, reduceIte, Nat.add_sub_cancel_left]
theorem sv1_80 {I : Nat → Nat → Int32} {j : Nat} (h : j < 5) : sv1 I 89 (195 + j) = I 80 j := by
  unfold sv1
  simp (disch := omega) only [ko_out, kp_out, kp_in, kp_off]
  simp only [u2_row, Nat.reduceEqDiff, reduceIte, Nat.add_sub_cancel_left]
theorem sv1_81 {I : Nat → Nat → Int32} {j : Nat} (h : j < 4) : sv1 I 89 (200 + j) = I 81 j := by
  unfold sv1
  simp (disch := omega) only [ko_out, kp_out, kp_in, kp_off]
  simp only [u2_row, Nat.reduceEqDiff, reduceIte, Nat.add_sub_cancel_left]
theorem sv1_82 {I : Nat → Nat → Int32} {j : Nat} (h : j < 4) : sv1 I 89 (204 + j) = I 82 j := by
  unfold sv1
  simp (disch := omega) only [ko_out, kp_out, kp_in, kp_off]
  simp only [u2_row, Nat.reduceEqDiff, reduceIte, Nat.add_sub_cancel_left]
theorem sv1_83 {I : Nat → Nat → Int32} {j : Nat} (h : j < 4) : sv1 I 89 (208 + j) = I 83 j := by
  unfold sv1
  simp (disch := omega) only [ko_out, kp_out, kp_in, kp_off]
  simp only [u2_row, Nat.reduceEqDiff, reduceIte, Nat.add_sub_cancel_left]
theorem sv1_84 {I : Nat → Nat → Int32} {j : Nat} (h : j < 4) : sv1 I 89 (212 + j) = I 84 j := by
  unfold sv1
  simp (disch := omega) only [ko_out, kp_out, kp_in, kp_off]
  simp only [u2_row, Nat.reduceEqDiff, reduceIte, Nat.add_sub_cancel_left]
theorem sv1_f13 {I : Nat → Nat → Int32} : sv1 I 89 216 = I 71 13 := by
  unfold sv1
  simp (disch := omega) only [ko_out, ko_in, ko_71, kp_71]
  simp only [u2_row, Nat.reduceEqDiff, reduceIte]
theorem sv1_f14 {I : Nat → Nat → Int32} : sv1 I 89 217 = I 71 14 := by
  unfold sv1
  simp (disch := omega) only [ko_out, ko_in, ko_71, kp_71]
  simp only [u2_row, Nat.reduceEqDiff, reduceIte]
theorem sv1_f15 {I : Nat → Nat → Int32} : sv1 I 89 218 = I 71 15 := by
  unfold sv1
  simp (disch := omega) only [ko_out, ko_in, ko_71, kp_71]
  simp only [u2_row, Nat.reduceEqDiff, reduceIte]
theorem sv1_f16 {I : Nat → Nat → Int32} : sv1 I 89 219 = I 71 16 := by
  unfold sv1
  simp (disch := omega) only [ko_out, ko_in, ko_71, kp_71]
  simp only [u2_row, Nat.reduceEqDiff, reduceIte]
theorem sv1_f17 {I : Nat → Nat → Int32} : sv1 I 89 220 = I 71 17 := by
  unfold sv1
  simp (disch := omega) only [ko_out, ko_in, ko_71, kp_71]
  simp only [u2_row, Nat.reduceEqDiff, reduceIte]
theorem sv1_f18 {I : Nat → Nat → Int32} : sv1 I 89 221 = I 71 18 := by
  unfold sv1
  simp (disch := omega) only [ko_out, ko_in, ko_71, kp_71]
  simp only [u2_row, Nat.reduceEqDiff, reduceIte]
theorem sv1_f19 {I : Nat → Nat → Int32} : sv1 I 89 222 = I 71 19 := by
  unfold sv1
  simp (disch := omega) only [ko_out, ko_in, ko_71, kp_71]
  simp only [u2_row, Nat.reduceEqDiff, reduceIte]
theorem sv1_f20 {I : Nat → Nat → Int32} : sv1 I 89 223 = I 71 20 := by
  unfold sv1
  simp (disch := omega) only [ko_out, ko_in, ko_71, kp_71]
  simp only [u2_row, Nat.reduceEqDiff, reduceIte]
theorem tk1_off {I : Nat → Nat → Int32} {b : Nat} (h1 : b ≠ 71) (h2 : b < 73 ∨ 84 < b) : tk1 I b = I b := by
  unfold tk1
  simp (disch := omega) only [ro_off, rs_off]
  funext j
  simp only [u2_row, if_neg h1]
theorem tk1_71 {I : Nat → Nat → Int32} {j : Nat} (h1 : j ≠ 30) (h2 : j ≠ 31) (h3 : j < 13 ∨ 20 < j) : tk1 I 71 j = I 71 j := by
  unfold tk1
  simp (disch := omega) only [ro_71, rs_71]
  simp only [u2_row, reduceIte, if_neg h1, if_neg h2]
theorem tk1_73 {I : Nat → Nat → Int32} {j : Nat} : tk1 I 73 j = if j < 5 then I 89 (120 + j) else I 73 j := by
  unfold tk1
  simp (disch := omega) only [ro_off, rs_off, rs_b]
  simp only [u2_row, Nat.reduceEqDiff, reduceIte]
theorem tk1_74 {I : Nat → Nat → Int32} {j : Nat} : tk1 I 74 j = if j < 5 then I 89 (125 + j) else I 74 j := by
  unfold tk1
  simp (disch := omega) only [ro_off, rs_off, rs_b]
  simp only [u2_row, Nat.reduceEqDiff, reduceIte]
theorem tk1_75 {I : Nat → Nat → Int32} {j : Nat} : tk1 I 75 j = if j < 25 then I 89 (130 + j) else I 75 j := by
  unfold tk1
  simp (disch := omega) only [ro_off, rs_off, rs_b]
  simp only [u2_row, Nat.reduceEqDiff, reduceIte]
theorem tk1_76 {I : Nat → Nat → Int32} {j : Nat} : tk1 I 76 j = if j < 25 then I 89 (155 + j) else I 76 j := by
  unfold tk1
  simp (disch := omega) only [ro_off, rs_off, rs_b]
  simp only [u2_row, Nat.reduceEqDiff, reduceIte]
theorem tk1_77 {I : Nat → Nat → Int32} {j : Nat} : tk1 I 77 j = if j < 5 then I 89 (180 + j) else I 77 j := by
  unfold tk1
  simp (disch := omega) only [ro_off, rs_off, rs_b]
  simp only [u2_row, Nat.reduceEqDiff, reduceIte]
theorem tk1_78 {I : Nat → Nat → Int32} {j : Nat} : tk1 I 78 j = if j < 5 then I 89 (185 + j) else I 78 j := by
  unfold tk1
  simp (disch := omega) only [ro_off, rs_off, rs_b]
  simp only [u2_row, Nat.reduceEqDiff, reduceIte]
theorem tk1_79 {I : Nat → Nat → Int32} {j : Nat} : tk1 I 79 j = if j < 5 then I 89 (190 + j) else I 79 j := by
  unfold tk1
  simp (disch := omega) only [ro_off, rs_off, rs_b]
  simp only [u2_row, Nat.reduceEqDiff, reduceIte]
theorem tk1_80 {I : Nat → Nat → Int32} {j : Nat} : tk1 I 80 j = if j < 5 then I 89 (195 + j) else I 80 j := by
  unfold tk1
  simp (disch := omega) only [ro_off, rs_off, rs_b]
  simp only [u2_row, Nat.reduceEqDiff, reduceIte]
theorem tk1_81 {I : Nat → Nat → Int32} {j : Nat} : tk1 I 81 j = if j < 4 then I 89 (200 + j) else I 81 j := by
  unfold tk1
  simp (disch := omega) only [ro_off, rs_off, rs_b]
  simp only [u2_row, Nat.reduceEqDiff, reduceIte]
theorem tk1_82 {I : Nat → Nat → Int32} {j : Nat} : tk1 I 82 j = if j < 4 then I 89 (204 + j) else I 82 j := by
  unfold tk1
  simp (disch := omega) only [ro_off, rs_off, rs_b]
  simp only [u2_row, Nat.reduceEqDiff, reduceIte]
theorem tk1_83 {I : Nat → Nat → Int32} {j : Nat} : tk1 I 83 j = if j < 4 then I 89 (208 + j) else I 83 j := by
  unfold tk1
  simp (disch := omega) only [ro_off, rs_off, rs_b]
  simp only [u2_row, Nat.reduceEqDiff, reduceIte]
theorem tk1_84 {I : Nat → Nat → Int32} {j : Nat} : tk1 I 84 j = if j < 4 then I 89 (212 + j) else I 84 j := by
  unfold tk1
  simp (disch := omega) only [ro_off, rs_off, rs_b]
  simp only [u2_row, Nat.reduceEqDiff, reduceIte]
theorem tk1_f13 {I : Nat → Nat → Int32} : tk1 I 71 13 = I 89 216 := by
  unfold tk1
  simp (disch := omega) only [ro_71, ro_f, ro_off, rs_off]
  simp only [u2_row, Nat.reduceEqDiff, reduceIte]
theorem tk1_f14 {I : Nat → Nat → Int32} : tk1 I 71 14 = I 89 217 := by
  unfold tk1
  simp (disch := omega) only [ro_71, ro_f, ro_off, rs_off]
  simp only [u2_row, Nat.reduceEqDiff, reduceIte]
theorem tk1_f15 {I : Nat → Nat → Int32} : tk1 I 71 15 = I 89 218 := by
  unfold tk1
  simp (disch := omega) only [ro_71, ro_f, ro_off, rs_off]
  simp only [u2_row, Nat.reduceEqDiff, reduceIte]
theorem tk1_f16 {I : Nat → Nat → Int32} : tk1 I 71 16 = I 89 219 := by
  unfold tk1
  simp (disch := omega) only [ro_71, ro_f, ro_off, rs_off]
  simp only [u2_row, Nat.reduceEqDiff, reduceIte]
theorem tk1_f17 {I : Nat → Nat → Int32} : tk1 I 71 17 = I 89 220 := by
  unfold tk1
  simp (disch := omega) only [ro_71, ro_f, ro_off, rs_off]
  simp only [u2_row, Nat.reduceEqDiff, reduceIte]
theorem tk1_f18 {I : Nat → Nat → Int32} : tk1 I 71 18 = I 89 221 := by
  unfold tk1
  simp (disch := omega) only [ro_71, ro_f, ro_off, rs_off]
  simp only [u2_row, Nat.reduceEqDiff, reduceIte]
theorem tk1_f19 {I : Nat → Nat → Int32} : tk1 I 71 19 = I 89 222 := by
  unfold tk1
  simp (disch := omega) only [ro_71, ro_f, ro_off, rs_off]
  simp only [u2_row, Nat.reduceEqDiff, reduceIte]
theorem tk1_f20 {I : Nat → Nat → Int32} : tk1 I 71 20 = I 89 223 := by
  unfold tk1
  simp (disch := omega) only [ro_71, ro_f, ro_off, rs_off]
  simp only [u2_row, Nat.reduceEqDiff, reduceIte]
/-- the house comes back behind a run in mind -/
theorem backs {I G : Nat → Nat → Int32} (hz : ZI I) (hg : ZI (tk1 G)) (h89 : ∀ q, 120 ≤ q → q < 224 → G 89 q = sv1 I 89 q) :
    (∀ b, 73 ≤ b → b ≤ 84 → tk1 G b = I b) ∧ ∀ f, 13 ≤ f → f ≤ 20 → tk1 G 71 f = I 71 f := by
  refine ⟨fun b h1 h2 => ?_, fun f h1 h2 => ?_⟩
  · have hb : b = 73 ∨ b = 74 ∨ b = 75 ∨ b = 76 ∨ b = 77 ∨ b = 78 ∨ b = 79 ∨ b = 80 ∨ b = 81 ∨ b = 82 ∨ b = 83 ∨ b = 84 := by omega
    rcases hb with rfl | rfl | rfl | rfl | rfl | rfl | rfl | rfl | rfl | rfl | rfl | rfl
    · funext j
      by_cases hj : j < 5
      · rw [tk1_73, if_pos hj, h89 _ (by omega) (by omega)]; exact sv1_73 hj
      · rw [hg 73 5 rfl j (by omega), hz 73 5 rfl j (by omega)]
    · funext j
      by_cases hj : j < 5
      · rw [tk1_74, if_pos hj, h89 _ (by omega) (by omega)]; exact sv1_74 hj
      · rw [hg 74 5 rfl j (by omega), hz 74 5 rfl j (by omega)]
    · funext j
      by_cases hj : j < 25
      · rw [tk1_75, if_pos hj, h89 _ (by omega) (by omega)]; exact sv1_75 hj
      · rw [hg 75 25 rfl j (by omega), hz 75 25 rfl j (by omega)]
    · funext j
      by_cases hj : j < 25
      · rw [tk1_76, if_pos hj, h89 _ (by omega) (by omega)]; exact sv1_76 hj
      · rw [hg 76 25 rfl j (by omega), hz 76 25 rfl j (by omega)]
    · funext j
      by_cases hj : j < 5
      · rw [tk1_77, if_pos hj, h89 _ (by omega) (by omega)]; exact sv1_77 hj
      · rw [hg 77 5 rfl j (by omega), hz 77 5 rfl j (by omega)]
    · funext j
      by_cases hj : j < 5
      · rw [tk1_78, if_pos hj, h89 _ (by omega) (by omega)]; exact sv1_78 hj
      · rw [hg 78 5 rfl j (by omega), hz 78 5 rfl j (by omega)]
    · funext j
      by_cases hj : j < 5
      · rw [tk1_79, if_pos hj, h89 _ (by omega) (by omega)]; exact sv1_79 hj
      · rw [hg 79 5 rfl j (by omega), hz 79 5 rfl j (by omega)]
    · funext j
      by_cases hj : j < 5
      · rw [tk1_80, if_pos hj, h89 _ (by omega) (by omega)]; exact sv1_80 hj
      · rw [hg 80 5 rfl j (by omega), hz 80 5 rfl j (by omega)]
    · funext j
      by_cases hj : j < 4
      · rw [tk1_81, if_pos hj, h89 _ (by omega) (by omega)]; exact sv1_81 hj
      · rw [hg 81 4 rfl j (by omega), hz 81 4 rfl j (by omega)]
    · funext j
      by_cases hj : j < 4
      · rw [tk1_82, if_pos hj, h89 _ (by omega) (by omega)]; exact sv1_82 hj
      · rw [hg 82 4 rfl j (by omega), hz 82 4 rfl j (by omega)]
    · funext j
      by_cases hj : j < 4
      · rw [tk1_83, if_pos hj, h89 _ (by omega) (by omega)]; exact sv1_83 hj
      · rw [hg 83 4 rfl j (by omega), hz 83 4 rfl j (by omega)]
    · funext j
      by_cases hj : j < 4
      · rw [tk1_84, if_pos hj, h89 _ (by omega) (by omega)]; exact sv1_84 hj
      · rw [hg 84 4 rfl j (by omega), hz 84 4 rfl j (by omega)]
  · have hf : f = 13 ∨ f = 14 ∨ f = 15 ∨ f = 16 ∨ f = 17 ∨ f = 18 ∨ f = 19 ∨ f = 20 := by omega
    rcases hf with rfl | rfl | rfl | rfl | rfl | rfl | rfl | rfl
    · rw [tk1_f13, h89 _ (by omega) (by omega)]; exact sv1_f13
    · rw [tk1_f14, h89 _ (by omega) (by omega)]; exact sv1_f14
    · rw [tk1_f15, h89 _ (by omega) (by omega)]; exact sv1_f15
    · rw [tk1_f16, h89 _ (by omega) (by omega)]; exact sv1_f16
    · rw [tk1_f17, h89 _ (by omega) (by omega)]; exact sv1_f17
    · rw [tk1_f18, h89 _ (by omega) (by omega)]; exact sv1_f18
    · rw [tk1_f19, h89 _ (by omega) (by omega)]; exact sv1_f19
    · rw [tk1_f20, h89 _ (by omega) (by omega)]; exact sv1_f20
/-- a run in mind that touches its own only: all that counts stays -/
theorem Same.back {I G : Nat → Nat → Int32} (hz : ZI I) (hg : ZI (tk1 G)) (h89 : ∀ q, q < 224 → G 89 q = sv1 I 89 q) (h1 : ∀ b, b ≤ 32 → G b = I b) (h2 : ∀ b, 49 ≤ b → b ≤ 52 → G b = I b) (h3 : G 70 = I 70) (h4 : G 72 = I 72) (h5 : G 85 = I 85) (h6 : G 93 = I 93) (h7 : ∀ j, j < 38 → (j < 13 ∨ 20 < j) → j ≠ 26 → j ≠ 27 → j ≠ 30 → j ≠ 31 → G 71 j = I 71 j) : Same I (tk1 G) := by
  obtain ⟨b1, b2⟩ := backs hz hg (fun q _ h => h89 q h)
  refine ⟨fun b hb => ?_, fun b hb hb2 => ?_, ?_, fun b hb hb2 => ?_, ?_, fun j hj => ?_, fun j hj j1 j2 j3 j4 => ?_⟩
  · rw [tk1_off (by omega) (by omega)]; exact h1 b hb
  · rw [tk1_off (by omega) (by omega)]; exact h2 b hb hb2
  · rw [tk1_off (by omega) (by omega)]; exact h3
  · by_cases e : b = 72
    · subst e; rw [tk1_off (by omega) (by omega)]; exact h4
    · by_cases e2 : b = 85
      · subst e2; rw [tk1_off (by omega) (by omega)]; exact h5
      · exact b1 b (by omega) (by omega)
  · rw [tk1_off (by omega) (by omega)]; exact h6
  · rw [tk1_off (by omega) (by omega), h89 j (by omega)]
    exact sv1_else (Or.inl (by omega))
  · by_cases e : 13 ≤ j ∧ j ≤ 20
    · exact b2 j e.1 e.2
    · rw [tk1_71 j3 j4 (by omega)]; exact h7 j hj (by omega) j1 j2 j3 j4
